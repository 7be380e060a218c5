/-- the word ahead has its place -/
def LXp (M : cM) : Prop := M 63 4 ≤ M 63 5 ∧ (M 63 3 = 0 ∨ M 63 4 + 1 ≤ M 63 5)
def PRd (M M1 : cM) : Prop := 1 ≤ M1 63 9 ∨ M 63 4 + 1 ≤ M1 63 4
def NBd (M M1 : cM) (low high v : Int) : Prop := 1 ≤ M1 63 9 ∨ (low ≤ v ∧ v ≤ high ∧ M 63 4 + 1 ≤ M1 63 4)
theorem LXp.fr {S : List (Nat × Nat)} {M M1 : cM} (h : LXp M) (g : Fr S M M1) (hs : (c_in S 63 3 || c_in S 63 4 || c_in S 63 5) = false) : LXp M1 := by
  rw [Bool.or_eq_false_iff, Bool.or_eq_false_iff] at hs
  unfold LXp
  rw [g 63 3 hs.1.1, g 63 4 hs.1.2, g 63 5 hs.2]
  exact h
theorem LXp.up {M M1 : cM} {k f : Nat} {v : Int} (h : LXp M) (u : Up M k f v M1) (hk : k ≠ 63 ∨ (f ≠ 3 ∧ f ≠ 4 ∧ f ≠ 5)) : LXp M1 := by
  unfold LXp
  rw [u.2 63 3 (by omega), u.2 63 4 (by omega), u.2 63 5 (by omega)]
  exact h
theorem kx_176_0 : x_code k_P 176 0 = some (.aload_n 0, 1) := by decide +kernel
theorem kx_176_1 : x_code k_P 176 1 = some (.getfield 39, 3) := by decide +kernel
theorem kp_176_39 : x_pool k_P 176 39 = (1, 12, 9) := by decide +kernel
theorem kf_12_9 : (x_cls k_P 12)[9]? = some 0 := by decide +kernel
theorem kx_176_4 : x_code k_P 176 4 = some (.ifCond .le 4, 3) := by decide +kernel
theorem kx_176_8 : x_code k_P 176 8 = some (.aload_n 0, 1) := by decide +kernel
theorem kx_176_9 : x_code k_P 176 9 = some (.iload_n 1, 1) := by decide +kernel
theorem kx_176_10 : x_code k_P 176 10 = some (.putfield 39, 3) := by decide +kernel
theorem kx_176_13 : x_code k_P 176 13 = some (.aload_n 0, 1) := by decide +kernel
theorem kx_176_14 : x_code k_P 176 14 = some (.iload_n 2, 1) := by decide +kernel
theorem kx_176_15 : x_code k_P 176 15 = some (.putfield 42, 3) := by decide +kernel
theorem kp_176_42 : x_pool k_P 176 42 = (1, 12, 10) := by decide +kernel
theorem kf_12_10 : (x_cls k_P 12)[10]? = some 0 := by decide +kernel
theorem kx_176_18 : x_code k_P 176 18 = some (.return_, 1) := by decide +kernel
theorem kq_176 : x_retk k_P 176 = 0 := by decide +kernel
theorem kx_176_7 : x_code k_P 176 7 = some (.return_, 1) := by decide +kernel
def fS_176_m : List (Nat × Nat) := [(63, 10), (63, 9)]
theorem m_176 {xs : Nat → Int} {Ln d : Nat} {T : List cK} {M : cM} (hT : TT T) (hI : Rng M) {kind place : Int} (p0 : 1 ≤ kind ∧ kind ≤ 6) : cC k_P xs Ln (d + 0) 176 [rf 63, (0, kind), (0, place)] (T, M) (qV T M fS_176_m (fun M1 => 1 ≤ M1 63 9 ∧ M 63 9 ≤ M1 63 9)) := by
  show cP k_P xs Ln (d + 0) 176 0 [(0, rf 63), (1, (0, kind)), (2, (0, place))] [] (T, M) _
  have hFm : Fr fS_176_m M M := Fr.refl
  have h639 := rg_63_9 hI
  refine s_aload_n kx_176_0 rfl ?_
  refine r_getI (k := 63) (f := 9) kx_176_1 kp_176_39 (tk_63 hT) kf_12_9 (fun _ => rfl) (rg_63_9 hI) (fun v1 v1e v1a v1b => ?_)
  refine s_if_le (t := 8) kx_176_4 (by decide) (fun hc2 => ?_) (fun hc2 => ?_)
  · refine s_aload_n kx_176_8 rfl ?_
    refine s_iload_n kx_176_9 rfl ?_
    refine r_put (k := 63) (f := 9) kx_176_10 kp_176_39 (tk_63 hT) kf_12_9 rfl (by decide) (by decide) hI (ru_63_9 (by omega) (by omega)) (fun M3 hI3 u3 => ?_)
    have hFm3 := hFm.up u3 rfl
    refine s_aload_n kx_176_13 rfl ?_
    refine s_iload_n kx_176_14 rfl ?_
    refine r_put (k := 63) (f := 10) kx_176_15 kp_176_42 (tk_63 hT) kf_12_10 rfl (by decide) (by decide) hI3 ru_63_10 (fun M4 hI4 u4 => ?_)
    have hFm4 := hFm3.up u4 rfl
    have hk5 : M4 63 9 = kind := ((u4.2 63 9 (by omega)).trans u3.1)
    exact s_vret kx_176_18 kq_176 ⟨_, rfl, rfl, hI4, hFm4, (by omega)⟩
  · have hk6 : M 63 9 = v1 := v1e
    exact s_vret kx_176_7 kq_176 ⟨_, rfl, rfl, hI, hFm, (by omega)⟩
theorem kx_179_0 : x_code k_P 179 0 = some (.aload_n 0, 1) := by decide +kernel
theorem kx_179_1 : x_code k_P 179 1 = some (.getfield 51, 3) := by decide +kernel
theorem kp_179_51 : x_pool k_P 179 51 = (1, 12, 13) := by decide +kernel
theorem kf_12_13 : (x_cls k_P 12)[13]? = some 0 := by decide +kernel
theorem kx_179_4 : x_code k_P 179 4 = some (.iconst (-1), 1) := by decide +kernel
theorem kx_179_5 : x_code k_P 179 5 = some (.if_icmp .eq 12, 3) := by decide +kernel
theorem kx_179_17 : x_code k_P 179 17 = some (.return_, 1) := by decide +kernel
theorem kq_179 : x_retk k_P 179 = 0 := by decide +kernel
theorem kx_179_8 : x_code k_P 179 8 = some (.aload_n 0, 1) := by decide +kernel
theorem kx_179_9 : x_code k_P 179 9 = some (.iconst 1, 1) := by decide +kernel
theorem kx_179_10 : x_code k_P 179 10 = some (.aload_n 0, 1) := by decide +kernel
theorem kx_179_11 : x_code k_P 179 11 = some (.getfield 51, 3) := by decide +kernel
theorem kx_179_14 : x_code k_P 179 14 = some (.invokevirtual 263, 3) := by decide +kernel
theorem kp_179_263 : x_pool k_P 179 263 = (2, 176, 2) := by decide +kernel
theorem ki_176 : x_mci k_P 176 = 12 := by decide +kernel
theorem kcl_176 : x_maxL k_P 176 ≤ 60 ∧ 3 ≤ x_maxL k_P 176 := by decide +kernel
def fS_179_m : List (Nat × Nat) := [(63, 10), (63, 9)]
theorem m_179 {xs : Nat → Int} {Ln d : Nat} {T : List cK} {M : cM} (hT : TT T) (hI : Rng M) : cC k_P xs Ln (d + 1) 179 [rf 63] (T, M) (qV T M fS_179_m (fun M1 => M 63 9 ≤ M1 63 9)) := by
  show cP k_P xs Ln (d + 1) 179 0 [(0, rf 63)] [] (T, M) _
  have hFm : Fr fS_179_m M M := Fr.refl
  have h639 := rg_63_9 hI
  refine s_aload_n kx_179_0 rfl ?_
  refine r_getI (k := 63) (f := 13) kx_179_1 kp_179_51 (tk_63 hT) kf_12_13 (fun _ => rfl) (rg_63_13 hI) (fun v1 v1e v1a v1b => ?_)
  refine s_iconst (v := (-1)) kx_179_4 (by decide) ?_
  refine s_icmp_eq (t := 17) kx_179_5 (by decide) (fun hc2 => ?_) (fun hc2 => ?_)
  · exact s_vret kx_179_17 kq_179 ⟨_, rfl, rfl, hI, hFm, (by omega)⟩
  · refine s_aload_n kx_179_8 rfl ?_
    refine s_iconst (v := 1) kx_179_9 (by decide) ?_
    refine s_aload_n kx_179_10 rfl ?_
    refine r_getK (k := 63) (f := 13) kx_179_11 kp_179_51 (tk_63 hT) kf_12_13 (fun _ => rfl) v1e ?_
    refine s_callV2 (k := 63) (s1 := 3) (s2 := 0) (as := [(0, v1), (0, 1)]) (rest := []) kx_179_14 kp_179_263 (Or.inl rfl) rfl (tk_63 hT) ki_176 kcl_176 rfl rfl (by decide) (m_176 (d := d) (kind := 1) (place := v1) hT hI (by omega)) (kV (fun M4 hI4 fr4 v3p => ?_))
    have hFm4 := hFm.call fr4 rfl
    have tr5 := (fr4 63 3 rfl)
    have tr6 := (fr4 63 4 rfl)
    have tr7 := (fr4 63 5 rfl)
    have tr8 := rg_63_9 hI4
    exact s_vret kx_179_17 kq_179 ⟨_, rfl, rfl, hI4, hFm4, (by omega)⟩
theorem kx_184_0 : x_code k_P 184 0 = some (.lload_n 1, 1) := by decide +kernel
theorem kx_184_1 : x_code k_P 184 1 = some (.lconst 1, 1) := by decide +kernel
theorem kx_184_2 : x_code k_P 184 2 = some (.lcmp, 1) := by decide +kernel
theorem kx_184_3 : x_code k_P 184 3 = some (.ifCond .ne 5, 3) := by decide +kernel
theorem kx_184_8 : x_code k_P 184 8 = some (.lload_n 1, 1) := by decide +kernel
theorem kx_184_9 : x_code k_P 184 9 = some (.ldc2_w 289, 3) := by decide +kernel
theorem kp_184_289 : x_pool k_P 184 289 = (8, 0, 1919905645) := by decide +kernel
theorem kx_184_12 : x_code k_P 184 12 = some (.lcmp, 1) := by decide +kernel
theorem kx_184_13 : x_code k_P 184 13 = some (.ifCond .eq 35, 3) := by decide +kernel
theorem kx_184_48 : x_code k_P 184 48 = some (.iconst 1, 1) := by decide +kernel
theorem kx_184_49 : x_code k_P 184 49 = some (.ireturn, 1) := by decide +kernel
theorem kq_184 : x_retk k_P 184 = 2 := by decide +kernel
theorem kx_184_16 : x_code k_P 184 16 = some (.lload_n 1, 1) := by decide +kernel
theorem kx_184_17 : x_code k_P 184 17 = some (.ldc2_w 291, 3) := by decide +kernel
theorem kp_184_291 : x_pool k_P 184 291 = (8, 0, 1685024626) := by decide +kernel
theorem kx_184_20 : x_code k_P 184 20 = some (.lcmp, 1) := by decide +kernel
theorem kx_184_21 : x_code k_P 184 21 = some (.ifCond .eq 27, 3) := by decide +kernel
theorem kx_184_24 : x_code k_P 184 24 = some (.lload_n 1, 1) := by decide +kernel
theorem kx_184_25 : x_code k_P 184 25 = some (.ldc2_w 293, 3) := by decide +kernel
theorem kp_184_293 : x_pool k_P 184 293 = (8, 0, 439905906546) := by decide +kernel
theorem kx_184_28 : x_code k_P 184 28 = some (.lcmp, 1) := by decide +kernel
theorem kx_184_29 : x_code k_P 184 29 = some (.ifCond .eq 19, 3) := by decide +kernel
theorem kx_184_32 : x_code k_P 184 32 = some (.lload_n 1, 1) := by decide +kernel
theorem kx_184_33 : x_code k_P 184 33 = some (.ldc2_w 295, 3) := by decide +kernel
theorem kp_184_295 : x_pool k_P 184 295 = (8, 0, 7823737) := by decide +kernel
theorem kx_184_36 : x_code k_P 184 36 = some (.lcmp, 1) := by decide +kernel
theorem kx_184_37 : x_code k_P 184 37 = some (.ifCond .eq 11, 3) := by decide +kernel
theorem kx_184_40 : x_code k_P 184 40 = some (.lload_n 1, 1) := by decide +kernel
theorem kx_184_41 : x_code k_P 184 41 = some (.ldc2_w 297, 3) := by decide +kernel
theorem kp_184_297 : x_pool k_P 184 297 = (8, 0, 499850634611) := by decide +kernel
theorem kx_184_44 : x_code k_P 184 44 = some (.lcmp, 1) := by decide +kernel
theorem kx_184_45 : x_code k_P 184 45 = some (.ifCond .ne 5, 3) := by decide +kernel
theorem kx_184_50 : x_code k_P 184 50 = some (.lload_n 1, 1) := by decide +kernel
theorem kx_184_51 : x_code k_P 184 51 = some (.ldc2_w 299, 3) := by decide +kernel
theorem kp_184_299 : x_pool k_P 184 299 = (8, 0, 123581014175598) := by decide +kernel
theorem kx_184_54 : x_code k_P 184 54 = some (.lcmp, 1) := by decide +kernel
theorem kx_184_55 : x_code k_P 184 55 = some (.ifCond .eq 35, 3) := by decide +kernel
theorem kx_184_90 : x_code k_P 184 90 = some (.iconst 1, 1) := by decide +kernel
theorem kx_184_91 : x_code k_P 184 91 = some (.ireturn, 1) := by decide +kernel
theorem kx_184_58 : x_code k_P 184 58 = some (.lload_n 1, 1) := by decide +kernel
theorem kx_184_59 : x_code k_P 184 59 = some (.ldc2_w 301, 3) := by decide +kernel
theorem kp_184_301 : x_pool k_P 184 301 = (8, 0, 126943973305959) := by decide +kernel
theorem kx_184_62 : x_code k_P 184 62 = some (.lcmp, 1) := by decide +kernel
theorem kx_184_63 : x_code k_P 184 63 = some (.ifCond .eq 27, 3) := by decide +kernel
theorem kx_184_66 : x_code k_P 184 66 = some (.lload_n 1, 1) := by decide +kernel
theorem kx_184_67 : x_code k_P 184 67 = some (.ldc2_w 303, 3) := by decide +kernel
theorem kp_184_303 : x_pool k_P 184 303 = (8, 0, 426952976754) := by decide +kernel
theorem kx_184_70 : x_code k_P 184 70 = some (.lcmp, 1) := by decide +kernel
theorem kx_184_71 : x_code k_P 184 71 = some (.ifCond .eq 19, 3) := by decide +kernel
theorem kx_184_74 : x_code k_P 184 74 = some (.lload_n 1, 1) := by decide +kernel
theorem kx_184_75 : x_code k_P 184 75 = some (.ldc2_w 305, 3) := by decide +kernel
theorem kp_184_305 : x_pool k_P 184 305 = (8, 0, 2003395685) := by decide +kernel
theorem kx_184_78 : x_code k_P 184 78 = some (.lcmp, 1) := by decide +kernel
theorem kx_184_79 : x_code k_P 184 79 = some (.ifCond .eq 11, 3) := by decide +kernel
theorem kx_184_82 : x_code k_P 184 82 = some (.lload_n 1, 1) := by decide +kernel
theorem kx_184_83 : x_code k_P 184 83 = some (.ldc2_w 307, 3) := by decide +kernel
theorem kp_184_307 : x_pool k_P 184 307 = (8, 0, 24948) := by decide +kernel
theorem kx_184_86 : x_code k_P 184 86 = some (.lcmp, 1) := by decide +kernel
theorem kx_184_87 : x_code k_P 184 87 = some (.ifCond .ne 5, 3) := by decide +kernel
theorem kx_184_92 : x_code k_P 184 92 = some (.lload_n 1, 1) := by decide +kernel
theorem kx_184_93 : x_code k_P 184 93 = some (.ldc2_w 309, 3) := by decide +kernel
theorem kp_184_309 : x_pool k_P 184 309 = (8, 0, 117026742756708) := by decide +kernel
theorem kx_184_96 : x_code k_P 184 96 = some (.lcmp, 1) := by decide +kernel
theorem kx_184_97 : x_code k_P 184 97 = some (.ifCond .eq 35, 3) := by decide +kernel
theorem kx_184_132 : x_code k_P 184 132 = some (.iconst 1, 1) := by decide +kernel
theorem kx_184_133 : x_code k_P 184 133 = some (.ireturn, 1) := by decide +kernel
theorem kx_184_100 : x_code k_P 184 100 = some (.lload_n 1, 1) := by decide +kernel
theorem kx_184_101 : x_code k_P 184 101 = some (.ldc2_w 311, 3) := by decide +kernel
theorem kp_184_311 : x_pool k_P 184 311 = (8, 0, 1936486263) := by decide +kernel
theorem kx_184_104 : x_code k_P 184 104 = some (.lcmp, 1) := by decide +kernel
theorem kx_184_105 : x_code k_P 184 105 = some (.ifCond .eq 27, 3) := by decide +kernel
theorem kx_184_108 : x_code k_P 184 108 = some (.lload_n 1, 1) := by decide +kernel
theorem kx_184_109 : x_code k_P 184 109 = some (.ldc2_w 313, 3) := by decide +kernel
theorem kp_184_313 : x_pool k_P 184 313 = (8, 0, 126943688025203) := by decide +kernel
theorem kx_184_112 : x_code k_P 184 112 = some (.lcmp, 1) := by decide +kernel
theorem kx_184_113 : x_code k_P 184 113 = some (.ifCond .eq 19, 3) := by decide +kernel
theorem kx_184_116 : x_code k_P 184 116 = some (.lload_n 1, 1) := by decide +kernel
theorem kx_184_117 : x_code k_P 184 117 = some (.ldc2_w 315, 3) := by decide +kernel
theorem kp_184_315 : x_pool k_P 184 315 = (8, 0, 108243466677107) := by decide +kernel
theorem kx_184_120 : x_code k_P 184 120 = some (.lcmp, 1) := by decide +kernel
theorem kx_184_121 : x_code k_P 184 121 = some (.ifCond .eq 11, 3) := by decide +kernel
theorem kx_184_124 : x_code k_P 184 124 = some (.lload_n 1, 1) := by decide +kernel
theorem kx_184_125 : x_code k_P 184 125 = some (.ldc2_w 317, 3) := by decide +kernel
theorem kp_184_317 : x_pool k_P 184 317 = (8, 0, 131277443786868) := by decide +kernel
theorem kx_184_128 : x_code k_P 184 128 = some (.lcmp, 1) := by decide +kernel
theorem kx_184_129 : x_code k_P 184 129 = some (.ifCond .ne 5, 3) := by decide +kernel
theorem kx_184_134 : x_code k_P 184 134 = some (.lload_n 1, 1) := by decide +kernel
theorem kx_184_135 : x_code k_P 184 135 = some (.ldc2_w 319, 3) := by decide +kernel
theorem kp_184_319 : x_pool k_P 184 319 = (8, 0, 427021001579) := by decide +kernel
theorem kx_184_138 : x_code k_P 184 138 = some (.lcmp, 1) := by decide +kernel
theorem kx_184_139 : x_code k_P 184 139 = some (.ifCond .eq 35, 3) := by decide +kernel
theorem kx_184_174 : x_code k_P 184 174 = some (.iconst 1, 1) := by decide +kernel
theorem kx_184_175 : x_code k_P 184 175 = some (.ireturn, 1) := by decide +kernel
theorem kx_184_142 : x_code k_P 184 142 = some (.lload_n 1, 1) := by decide +kernel
theorem kx_184_143 : x_code k_P 184 143 = some (.ldc2_w 321, 3) := by decide +kernel
theorem kp_184_321 : x_pool k_P 184 321 = (8, 0, 7305070) := by decide +kernel
theorem kx_184_146 : x_code k_P 184 146 = some (.lcmp, 1) := by decide +kernel
theorem kx_184_147 : x_code k_P 184 147 = some (.ifCond .eq 27, 3) := by decide +kernel
theorem kx_184_150 : x_code k_P 184 150 = some (.lload_n 1, 1) := by decide +kernel
theorem kx_184_151 : x_code k_P 184 151 = some (.ldc2_w 323, 3) := by decide +kernel
theorem kp_184_323 : x_pool k_P 184 323 = (8, 0, 26982) := by decide +kernel
theorem kx_184_154 : x_code k_P 184 154 = some (.lcmp, 1) := by decide +kernel
theorem kx_184_155 : x_code k_P 184 155 = some (.ifCond .eq 19, 3) := by decide +kernel
theorem kx_184_158 : x_code k_P 184 158 = some (.lload_n 1, 1) := by decide +kernel
theorem kx_184_159 : x_code k_P 184 159 = some (.ldc2_w 325, 3) := by decide +kernel
theorem kp_184_325 : x_pool k_P 184 325 = (8, 0, 28530) := by decide +kernel
theorem kx_184_162 : x_code k_P 184 162 = some (.lcmp, 1) := by decide +kernel
theorem kx_184_163 : x_code k_P 184 163 = some (.ifCond .eq 11, 3) := by decide +kernel
theorem kx_184_166 : x_code k_P 184 166 = some (.lload_n 1, 1) := by decide +kernel
theorem kx_184_167 : x_code k_P 184 167 = some (.ldc2_w 327, 3) := by decide +kernel
theorem kp_184_327 : x_pool k_P 184 327 = (8, 0, 6385252) := by decide +kernel
theorem kx_184_170 : x_code k_P 184 170 = some (.lcmp, 1) := by decide +kernel
theorem kx_184_171 : x_code k_P 184 171 = some (.ifCond .ne 5, 3) := by decide +kernel
theorem kx_184_176 : x_code k_P 184 176 = some (.lload_n 1, 1) := by decide +kernel
theorem kx_184_177 : x_code k_P 184 177 = some (.ldc2_w 329, 3) := by decide +kernel
theorem kp_184_329 : x_pool k_P 184 329 = (8, 0, 7237492) := by decide +kernel
theorem kx_184_180 : x_code k_P 184 180 = some (.lcmp, 1) := by decide +kernel
theorem kx_184_181 : x_code k_P 184 181 = some (.ifCond .eq 27, 3) := by decide +kernel
theorem kx_184_208 : x_code k_P 184 208 = some (.iconst 1, 1) := by decide +kernel
theorem kx_184_209 : x_code k_P 184 209 = some (.ireturn, 1) := by decide +kernel
theorem kx_184_184 : x_code k_P 184 184 = some (.lload_n 1, 1) := by decide +kernel
theorem kx_184_185 : x_code k_P 184 185 = some (.ldc2_w 331, 3) := by decide +kernel
theorem kp_184_331 : x_pool k_P 184 331 = (8, 0, 6384748) := by decide +kernel
theorem kx_184_188 : x_code k_P 184 188 = some (.lcmp, 1) := by decide +kernel
theorem kx_184_189 : x_code k_P 184 189 = some (.ifCond .eq 19, 3) := by decide +kernel
theorem kx_184_192 : x_code k_P 184 192 = some (.lload_n 1, 1) := by decide +kernel
theorem kx_184_193 : x_code k_P 184 193 = some (.ldc2_w 333, 3) := by decide +kernel
theorem kp_184_333 : x_pool k_P 184 333 = (8, 0, 7170414) := by decide +kernel
theorem kx_184_196 : x_code k_P 184 196 = some (.lcmp, 1) := by decide +kernel
theorem kx_184_197 : x_code k_P 184 197 = some (.ifCond .eq 11, 3) := by decide +kernel
theorem kx_184_200 : x_code k_P 184 200 = some (.lload_n 1, 1) := by decide +kernel
theorem kx_184_201 : x_code k_P 184 201 = some (.ldc2_w 335, 3) := by decide +kernel
theorem kp_184_335 : x_pool k_P 184 335 = (8, 0, 7168376) := by decide +kernel
theorem kx_184_204 : x_code k_P 184 204 = some (.lcmp, 1) := by decide +kernel
theorem kx_184_205 : x_code k_P 184 205 = some (.ifCond .ne 5, 3) := by decide +kernel
theorem kx_184_210 : x_code k_P 184 210 = some (.iconst 0, 1) := by decide +kernel
theorem kx_184_211 : x_code k_P 184 211 = some (.ireturn, 1) := by decide +kernel
theorem kx_184_6 : x_code k_P 184 6 = some (.iconst 1, 1) := by decide +kernel
theorem kx_184_7 : x_code k_P 184 7 = some (.ireturn, 1) := by decide +kernel
theorem m_184 {xs : Nat → Int} {Ln d : Nat} {T : List cK} {M : cM} (hT : TT T) (hI : Rng M) {w : Int} : cC k_P xs Ln (d + 0) 184 [rf 63, (1, w)] (T, M) (qF T M 0 (fun v => 0 ≤ v ∧ v ≤ 1)) := by
  show cP k_P xs Ln (d + 0) 184 0 [(0, rf 63), (1, (1, w))] [] (T, M) _
  refine s_lload_n kx_184_0 rfl ?_
  refine s_lconst (v := 1) kx_184_1 (by decide) ?_
  refine r_lcmpR kx_184_2 (fun v1 => ?_)
  refine s_if_ne (t := 8) kx_184_3 (by decide) (fun hc2 => ?_) (fun hc2 => ?_)
  · refine s_lload_n kx_184_8 rfl ?_
    refine s_ldc2_w kx_184_9 kp_184_289 ?_
    refine r_lcmpR kx_184_12 (fun v3 => ?_)
    refine s_if_eq (t := 48) kx_184_13 (by decide) (fun hc4 => ?_) (fun hc4 => ?_)
    · refine s_iconst (v := 1) kx_184_48 (by decide) ?_
      exact s_iret kx_184_49 (Or.inr ⟨kq_184, by omega⟩) ⟨_, rfl, rfl, (by omega)⟩
    · refine s_lload_n kx_184_16 rfl ?_
      refine s_ldc2_w kx_184_17 kp_184_291 ?_
      refine r_lcmpR kx_184_20 (fun v5 => ?_)
      refine s_if_eq (t := 48) kx_184_21 (by decide) (fun hc6 => ?_) (fun hc6 => ?_)
      · refine s_iconst (v := 1) kx_184_48 (by decide) ?_
        exact s_iret kx_184_49 (Or.inr ⟨kq_184, by omega⟩) ⟨_, rfl, rfl, (by omega)⟩
      · refine s_lload_n kx_184_24 rfl ?_
        refine s_ldc2_w kx_184_25 kp_184_293 ?_
        refine r_lcmpR kx_184_28 (fun v7 => ?_)
        refine s_if_eq (t := 48) kx_184_29 (by decide) (fun hc8 => ?_) (fun hc8 => ?_)
        · refine s_iconst (v := 1) kx_184_48 (by decide) ?_
          exact s_iret kx_184_49 (Or.inr ⟨kq_184, by omega⟩) ⟨_, rfl, rfl, (by omega)⟩
        · refine s_lload_n kx_184_32 rfl ?_
          refine s_ldc2_w kx_184_33 kp_184_295 ?_
          refine r_lcmpR kx_184_36 (fun v9 => ?_)
          refine s_if_eq (t := 48) kx_184_37 (by decide) (fun hc10 => ?_) (fun hc10 => ?_)
          · refine s_iconst (v := 1) kx_184_48 (by decide) ?_
            exact s_iret kx_184_49 (Or.inr ⟨kq_184, by omega⟩) ⟨_, rfl, rfl, (by omega)⟩
          · refine s_lload_n kx_184_40 rfl ?_
            refine s_ldc2_w kx_184_41 kp_184_297 ?_
            refine r_lcmpR kx_184_44 (fun v11 => ?_)
            refine s_if_ne (t := 50) kx_184_45 (by decide) (fun hc12 => ?_) (fun hc12 => ?_)
            · refine s_lload_n kx_184_50 rfl ?_
              refine s_ldc2_w kx_184_51 kp_184_299 ?_
              refine r_lcmpR kx_184_54 (fun v13 => ?_)
              refine s_if_eq (t := 90) kx_184_55 (by decide) (fun hc14 => ?_) (fun hc14 => ?_)
              · refine s_iconst (v := 1) kx_184_90 (by decide) ?_
                exact s_iret kx_184_91 (Or.inr ⟨kq_184, by omega⟩) ⟨_, rfl, rfl, (by omega)⟩
              · refine s_lload_n kx_184_58 rfl ?_
                refine s_ldc2_w kx_184_59 kp_184_301 ?_
                refine r_lcmpR kx_184_62 (fun v15 => ?_)
                refine s_if_eq (t := 90) kx_184_63 (by decide) (fun hc16 => ?_) (fun hc16 => ?_)
                · refine s_iconst (v := 1) kx_184_90 (by decide) ?_
                  exact s_iret kx_184_91 (Or.inr ⟨kq_184, by omega⟩) ⟨_, rfl, rfl, (by omega)⟩
                · refine s_lload_n kx_184_66 rfl ?_
                  refine s_ldc2_w kx_184_67 kp_184_303 ?_
                  refine r_lcmpR kx_184_70 (fun v17 => ?_)
                  refine s_if_eq (t := 90) kx_184_71 (by decide) (fun hc18 => ?_) (fun hc18 => ?_)
                  · refine s_iconst (v := 1) kx_184_90 (by decide) ?_
                    exact s_iret kx_184_91 (Or.inr ⟨kq_184, by omega⟩) ⟨_, rfl, rfl, (by omega)⟩
                  · refine s_lload_n kx_184_74 rfl ?_
                    refine s_ldc2_w kx_184_75 kp_184_305 ?_
                    refine r_lcmpR kx_184_78 (fun v19 => ?_)
                    refine s_if_eq (t := 90) kx_184_79 (by decide) (fun hc20 => ?_) (fun hc20 => ?_)
                    · refine s_iconst (v := 1) kx_184_90 (by decide) ?_
                      exact s_iret kx_184_91 (Or.inr ⟨kq_184, by omega⟩) ⟨_, rfl, rfl, (by omega)⟩
                    · refine s_lload_n kx_184_82 rfl ?_
                      refine s_ldc2_w kx_184_83 kp_184_307 ?_
                      refine r_lcmpR kx_184_86 (fun v21 => ?_)
                      refine s_if_ne (t := 92) kx_184_87 (by decide) (fun hc22 => ?_) (fun hc22 => ?_)
                      · refine s_lload_n kx_184_92 rfl ?_
                        refine s_ldc2_w kx_184_93 kp_184_309 ?_
                        refine r_lcmpR kx_184_96 (fun v23 => ?_)
                        refine s_if_eq (t := 132) kx_184_97 (by decide) (fun hc24 => ?_) (fun hc24 => ?_)
                        · refine s_iconst (v := 1) kx_184_132 (by decide) ?_
                          exact s_iret kx_184_133 (Or.inr ⟨kq_184, by omega⟩) ⟨_, rfl, rfl, (by omega)⟩
                        · refine s_lload_n kx_184_100 rfl ?_
                          refine s_ldc2_w kx_184_101 kp_184_311 ?_
                          refine r_lcmpR kx_184_104 (fun v25 => ?_)
                          refine s_if_eq (t := 132) kx_184_105 (by decide) (fun hc26 => ?_) (fun hc26 => ?_)
                          · refine s_iconst (v := 1) kx_184_132 (by decide) ?_
                            exact s_iret kx_184_133 (Or.inr ⟨kq_184, by omega⟩) ⟨_, rfl, rfl, (by omega)⟩
                          · refine s_lload_n kx_184_108 rfl ?_
                            refine s_ldc2_w kx_184_109 kp_184_313 ?_
                            refine r_lcmpR kx_184_112 (fun v27 => ?_)
                            refine s_if_eq (t := 132) kx_184_113 (by decide) (fun hc28 => ?_) (fun hc28 => ?_)
                            · refine s_iconst (v := 1) kx_184_132 (by decide) ?_
                              exact s_iret kx_184_133 (Or.inr ⟨kq_184, by omega⟩) ⟨_, rfl, rfl, (by omega)⟩
                            · refine s_lload_n kx_184_116 rfl ?_
                              refine s_ldc2_w kx_184_117 kp_184_315 ?_
                              refine r_lcmpR kx_184_120 (fun v29 => ?_)
                              refine s_if_eq (t := 132) kx_184_121 (by decide) (fun hc30 => ?_) (fun hc30 => ?_)
                              · refine s_iconst (v := 1) kx_184_132 (by decide) ?_
                                exact s_iret kx_184_133 (Or.inr ⟨kq_184, by omega⟩) ⟨_, rfl, rfl, (by omega)⟩
                              · refine s_lload_n kx_184_124 rfl ?_
                                refine s_ldc2_w kx_184_125 kp_184_317 ?_
                                refine r_lcmpR kx_184_128 (fun v31 => ?_)
                                refine s_if_ne (t := 134) kx_184_129 (by decide) (fun hc32 => ?_) (fun hc32 => ?_)
                                · refine s_lload_n kx_184_134 rfl ?_
                                  refine s_ldc2_w kx_184_135 kp_184_319 ?_
                                  refine r_lcmpR kx_184_138 (fun v33 => ?_)
                                  refine s_if_eq (t := 174) kx_184_139 (by decide) (fun hc34 => ?_) (fun hc34 => ?_)
                                  · refine s_iconst (v := 1) kx_184_174 (by decide) ?_
                                    exact s_iret kx_184_175 (Or.inr ⟨kq_184, by omega⟩) ⟨_, rfl, rfl, (by omega)⟩
                                  · refine s_lload_n kx_184_142 rfl ?_
                                    refine s_ldc2_w kx_184_143 kp_184_321 ?_
                                    refine r_lcmpR kx_184_146 (fun v35 => ?_)
                                    refine s_if_eq (t := 174) kx_184_147 (by decide) (fun hc36 => ?_) (fun hc36 => ?_)
                                    · refine s_iconst (v := 1) kx_184_174 (by decide) ?_
                                      exact s_iret kx_184_175 (Or.inr ⟨kq_184, by omega⟩) ⟨_, rfl, rfl, (by omega)⟩
                                    · refine s_lload_n kx_184_150 rfl ?_
                                      refine s_ldc2_w kx_184_151 kp_184_323 ?_
                                      refine r_lcmpR kx_184_154 (fun v37 => ?_)
                                      refine s_if_eq (t := 174) kx_184_155 (by decide) (fun hc38 => ?_) (fun hc38 => ?_)
                                      · refine s_iconst (v := 1) kx_184_174 (by decide) ?_
                                        exact s_iret kx_184_175 (Or.inr ⟨kq_184, by omega⟩) ⟨_, rfl, rfl, (by omega)⟩
                                      · refine s_lload_n kx_184_158 rfl ?_
                                        refine s_ldc2_w kx_184_159 kp_184_325 ?_
                                        refine r_lcmpR kx_184_162 (fun v39 => ?_)
                                        refine s_if_eq (t := 174) kx_184_163 (by decide) (fun hc40 => ?_) (fun hc40 => ?_)
                                        · refine s_iconst (v := 1) kx_184_174 (by decide) ?_
                                          exact s_iret kx_184_175 (Or.inr ⟨kq_184, by omega⟩) ⟨_, rfl, rfl, (by omega)⟩
                                        · refine s_lload_n kx_184_166 rfl ?_
                                          refine s_ldc2_w kx_184_167 kp_184_327 ?_
                                          refine r_lcmpR kx_184_170 (fun v41 => ?_)
                                          refine s_if_ne (t := 176) kx_184_171 (by decide) (fun hc42 => ?_) (fun hc42 => ?_)
                                          · refine s_lload_n kx_184_176 rfl ?_
                                            refine s_ldc2_w kx_184_177 kp_184_329 ?_
                                            refine r_lcmpR kx_184_180 (fun v43 => ?_)
                                            refine s_if_eq (t := 208) kx_184_181 (by decide) (fun hc44 => ?_) (fun hc44 => ?_)
                                            · refine s_iconst (v := 1) kx_184_208 (by decide) ?_
                                              exact s_iret kx_184_209 (Or.inr ⟨kq_184, by omega⟩) ⟨_, rfl, rfl, (by omega)⟩
                                            · refine s_lload_n kx_184_184 rfl ?_
                                              refine s_ldc2_w kx_184_185 kp_184_331 ?_
                                              refine r_lcmpR kx_184_188 (fun v45 => ?_)
                                              refine s_if_eq (t := 208) kx_184_189 (by decide) (fun hc46 => ?_) (fun hc46 => ?_)
                                              · refine s_iconst (v := 1) kx_184_208 (by decide) ?_
                                                exact s_iret kx_184_209 (Or.inr ⟨kq_184, by omega⟩) ⟨_, rfl, rfl, (by omega)⟩
                                              · refine s_lload_n kx_184_192 rfl ?_
                                                refine s_ldc2_w kx_184_193 kp_184_333 ?_
                                                refine r_lcmpR kx_184_196 (fun v47 => ?_)
                                                refine s_if_eq (t := 208) kx_184_197 (by decide) (fun hc48 => ?_) (fun hc48 => ?_)
                                                · refine s_iconst (v := 1) kx_184_208 (by decide) ?_
                                                  exact s_iret kx_184_209 (Or.inr ⟨kq_184, by omega⟩) ⟨_, rfl, rfl, (by omega)⟩
                                                · refine s_lload_n kx_184_200 rfl ?_
                                                  refine s_ldc2_w kx_184_201 kp_184_335 ?_
                                                  refine r_lcmpR kx_184_204 (fun v49 => ?_)
                                                  refine s_if_ne (t := 210) kx_184_205 (by decide) (fun hc50 => ?_) (fun hc50 => ?_)
                                                  · refine s_iconst (v := 0) kx_184_210 (by decide) ?_
                                                    exact s_iret kx_184_211 (Or.inr ⟨kq_184, by omega⟩) ⟨_, rfl, rfl, (by omega)⟩
                                                  · refine s_iconst (v := 1) kx_184_208 (by decide) ?_
                                                    exact s_iret kx_184_209 (Or.inr ⟨kq_184, by omega⟩) ⟨_, rfl, rfl, (by omega)⟩
                                          · refine s_iconst (v := 1) kx_184_174 (by decide) ?_
                                            exact s_iret kx_184_175 (Or.inr ⟨kq_184, by omega⟩) ⟨_, rfl, rfl, (by omega)⟩
                                · refine s_iconst (v := 1) kx_184_132 (by decide) ?_
                                  exact s_iret kx_184_133 (Or.inr ⟨kq_184, by omega⟩) ⟨_, rfl, rfl, (by omega)⟩
                      · refine s_iconst (v := 1) kx_184_90 (by decide) ?_
                        exact s_iret kx_184_91 (Or.inr ⟨kq_184, by omega⟩) ⟨_, rfl, rfl, (by omega)⟩
            · refine s_iconst (v := 1) kx_184_48 (by decide) ?_
              exact s_iret kx_184_49 (Or.inr ⟨kq_184, by omega⟩) ⟨_, rfl, rfl, (by omega)⟩
  · refine s_iconst (v := 1) kx_184_6 (by decide) ?_
    exact s_iret kx_184_7 (Or.inr ⟨kq_184, by omega⟩) ⟨_, rfl, rfl, (by omega)⟩
theorem kx_180_0 : x_code k_P 180 0 = some (.aload_n 0, 1) := by decide +kernel
theorem kx_180_1 : x_code k_P 180 1 = some (.getfield 26, 3) := by decide +kernel
theorem kp_180_26 : x_pool k_P 180 26 = (1, 12, 5) := by decide +kernel
theorem kf_12_5 : (x_cls k_P 12)[5]? = some 0 := by decide +kernel
theorem kx_180_4 : x_code k_P 180 4 = some (.istore_n 1, 1) := by decide +kernel
theorem km_180_1 : 1 < x_maxL k_P 180 := by decide +kernel
theorem kx_180_5 : x_code k_P 180 5 = some (.iload_n 1, 1) := by decide +kernel
theorem kx_180_6 : x_code k_P 180 6 = some (.aload_n 0, 1) := by decide +kernel
theorem kx_180_7 : x_code k_P 180 7 = some (.getfield 17, 3) := by decide +kernel
theorem kp_180_17 : x_pool k_P 180 17 = (1, 12, 2) := by decide +kernel
theorem kf_12_2 : (x_cls k_P 12)[2]? = some 0 := by decide +kernel
theorem kx_180_10 : x_code k_P 180 10 = some (.if_icmp .ge 31, 3) := by decide +kernel
theorem kx_180_41 : x_code k_P 180 41 = some (.aload_n 0, 1) := by decide +kernel
theorem kx_180_42 : x_code k_P 180 42 = some (.iload_n 1, 1) := by decide +kernel
theorem kx_180_43 : x_code k_P 180 43 = some (.putfield 23, 3) := by decide +kernel
theorem kp_180_23 : x_pool k_P 180 23 = (1, 12, 4) := by decide +kernel
theorem kf_12_4 : (x_cls k_P 12)[4]? = some 0 := by decide +kernel
theorem kx_180_46 : x_code k_P 180 46 = some (.aload_n 0, 1) := by decide +kernel
theorem kx_180_47 : x_code k_P 180 47 = some (.iload_n 1, 1) := by decide +kernel
theorem kx_180_48 : x_code k_P 180 48 = some (.putfield 26, 3) := by decide +kernel
theorem kx_180_51 : x_code k_P 180 51 = some (.aload_n 0, 1) := by decide +kernel
theorem kx_180_52 : x_code k_P 180 52 = some (.iconst 0, 1) := by decide +kernel
theorem kx_180_53 : x_code k_P 180 53 = some (.putfield 20, 3) := by decide +kernel
theorem kp_180_20 : x_pool k_P 180 20 = (1, 12, 3) := by decide +kernel
theorem kf_12_3 : (x_cls k_P 12)[3]? = some 0 := by decide +kernel
theorem kx_180_56 : x_code k_P 180 56 = some (.aload_n 0, 1) := by decide +kernel
theorem kx_180_57 : x_code k_P 180 57 = some (.iconst (-1), 1) := by decide +kernel
theorem kx_180_58 : x_code k_P 180 58 = some (.putfield 51, 3) := by decide +kernel
theorem kp_180_51 : x_pool k_P 180 51 = (1, 12, 13) := by decide +kernel
theorem kx_180_61 : x_code k_P 180 61 = some (.iload_n 1, 1) := by decide +kernel
theorem kx_180_62 : x_code k_P 180 62 = some (.aload_n 0, 1) := by decide +kernel
theorem kx_180_63 : x_code k_P 180 63 = some (.getfield 17, 3) := by decide +kernel
theorem kx_180_66 : x_code k_P 180 66 = some (.if_icmp .lt 4, 3) := by decide +kernel
theorem kx_180_70 : x_code k_P 180 70 = some (.aload_n 0, 1) := by decide +kernel
theorem kx_180_71 : x_code k_P 180 71 = some (.getfield 7, 3) := by decide +kernel
theorem kp_180_7 : x_pool k_P 180 7 = (1, 12, 0) := by decide +kernel
theorem kx_180_74 : x_code k_P 180 74 = some (.iload_n 1, 1) := by decide +kernel
theorem kx_180_75 : x_code k_P 180 75 = some (.iaload, 1) := by decide +kernel
theorem kx_180_76 : x_code k_P 180 76 = some (.invokestatic 267, 3) := by decide +kernel
theorem kp_180_267 : x_pool k_P 180 267 = (6, 177, 1) := by decide +kernel
theorem kcl_177 : x_maxL k_P 177 ≤ 60 ∧ 1 ≤ x_maxL k_P 177 := by decide +kernel
theorem kx_180_79 : x_code k_P 180 79 = some (.istore_n 2, 1) := by decide +kernel
theorem km_180_2 : 2 < x_maxL k_P 180 := by decide +kernel
theorem kx_180_80 : x_code k_P 180 80 = some (.aload_n 0, 1) := by decide +kernel
theorem kx_180_81 : x_code k_P 180 81 = some (.getfield 7, 3) := by decide +kernel
theorem kx_180_84 : x_code k_P 180 84 = some (.iload_n 1, 1) := by decide +kernel
theorem kx_180_85 : x_code k_P 180 85 = some (.iaload, 1) := by decide +kernel
theorem kx_180_86 : x_code k_P 180 86 = some (.invokestatic 271, 3) := by decide +kernel
theorem kp_180_271 : x_pool k_P 180 271 = (6, 178, 1) := by decide +kernel
theorem kcl_178 : x_maxL k_P 178 ≤ 60 ∧ 1 ≤ x_maxL k_P 178 := by decide +kernel
theorem kx_180_89 : x_code k_P 180 89 = some (.istore_n 3, 1) := by decide +kernel
theorem km_180_3 : 3 < x_maxL k_P 180 := by decide +kernel
theorem kx_180_90 : x_code k_P 180 90 = some (.iload_n 2, 1) := by decide +kernel
theorem kx_180_91 : x_code k_P 180 91 = some (.ifCond .ne 7, 3) := by decide +kernel
theorem kx_180_98 : x_code k_P 180 98 = some (.iload_n 1, 1) := by decide +kernel
theorem kx_180_99 : x_code k_P 180 99 = some (.ifCond .le 36, 3) := by decide +kernel
theorem kx_180_102 : x_code k_P 180 102 = some (.aload_n 0, 1) := by decide +kernel
theorem kx_180_103 : x_code k_P 180 103 = some (.getfield 7, 3) := by decide +kernel
theorem kx_180_106 : x_code k_P 180 106 = some (.iload_n 1, 1) := by decide +kernel
theorem kx_180_107 : x_code k_P 180 107 = some (.iconst 1, 1) := by decide +kernel
theorem kx_180_108 : x_code k_P 180 108 = some (.isub, 1) := by decide +kernel
theorem kx_180_109 : x_code k_P 180 109 = some (.iaload, 1) := by decide +kernel
theorem kx_180_110 : x_code k_P 180 110 = some (.invokestatic 267, 3) := by decide +kernel
theorem kx_180_113 : x_code k_P 180 113 = some (.ifCond .ne 17, 3) := by decide +kernel
theorem kx_180_130 : x_code k_P 180 130 = some (.aload_n 0, 1) := by decide +kernel
theorem kx_180_131 : x_code k_P 180 131 = some (.iload_n 1, 1) := by decide +kernel
theorem kx_180_132 : x_code k_P 180 132 = some (.putfield 51, 3) := by decide +kernel
theorem kx_180_116 : x_code k_P 180 116 = some (.aload_n 0, 1) := by decide +kernel
theorem kx_180_117 : x_code k_P 180 117 = some (.getfield 7, 3) := by decide +kernel
theorem kx_180_120 : x_code k_P 180 120 = some (.iload_n 1, 1) := by decide +kernel
theorem kx_180_121 : x_code k_P 180 121 = some (.iconst 1, 1) := by decide +kernel
theorem kx_180_122 : x_code k_P 180 122 = some (.isub, 1) := by decide +kernel
theorem kx_180_123 : x_code k_P 180 123 = some (.iaload, 1) := by decide +kernel
theorem kx_180_124 : x_code k_P 180 124 = some (.invokestatic 271, 3) := by decide +kernel
theorem kx_180_127 : x_code k_P 180 127 = some (.ifCond .eq 8, 3) := by decide +kernel
theorem kx_180_94 : x_code k_P 180 94 = some (.iload_n 3, 1) := by decide +kernel
theorem kx_180_95 : x_code k_P 180 95 = some (.ifCond .eq 40, 3) := by decide +kernel
theorem kx_180_135 : x_code k_P 180 135 = some (.aload_n 0, 1) := by decide +kernel
theorem kx_180_136 : x_code k_P 180 136 = some (.iconst 0, 1) := by decide +kernel
theorem kx_180_137 : x_code k_P 180 137 = some (.putfield 29, 3) := by decide +kernel
theorem kp_180_29 : x_pool k_P 180 29 = (1, 12, 6) := by decide +kernel
theorem kf_12_6 : (x_cls k_P 12)[6]? = some 0 := by decide +kernel
theorem kx_180_140 : x_code k_P 180 140 = some (.aload_n 0, 1) := by decide +kernel
theorem kx_180_141 : x_code k_P 180 141 = some (.lconst 0, 1) := by decide +kernel
theorem kx_180_142 : x_code k_P 180 142 = some (.putfield 32, 3) := by decide +kernel
theorem kp_180_32 : x_pool k_P 180 32 = (1, 12, 7) := by decide +kernel
theorem kf_12_7 : (x_cls k_P 12)[7]? = some 1 := by decide +kernel
theorem kx_180_145 : x_code k_P 180 145 = some (.aload_n 0, 1) := by decide +kernel
theorem kx_180_146 : x_code k_P 180 146 = some (.iconst 3, 1) := by decide +kernel
theorem kx_180_147 : x_code k_P 180 147 = some (.putfield 20, 3) := by decide +kernel
theorem kx_180_150 : x_code k_P 180 150 = some (.aload_n 0, 1) := by decide +kernel
theorem kx_180_151 : x_code k_P 180 151 = some (.iload_n 1, 1) := by decide +kernel
theorem kx_180_152 : x_code k_P 180 152 = some (.iconst 1, 1) := by decide +kernel
theorem kx_180_153 : x_code k_P 180 153 = some (.iadd, 1) := by decide +kernel
theorem kx_180_154 : x_code k_P 180 154 = some (.putfield 26, 3) := by decide +kernel
theorem kx_180_157 : x_code k_P 180 157 = some (.iload_n 2, 1) := by decide +kernel
theorem kx_180_158 : x_code k_P 180 158 = some (.ifCond .ne 18, 3) := by decide +kernel
theorem kx_180_176 : x_code k_P 180 176 = some (.aload_n 0, 1) := by decide +kernel
theorem kx_180_177 : x_code k_P 180 177 = some (.iload_n 2, 1) := by decide +kernel
theorem kx_180_178 : x_code k_P 180 178 = some (.ifCond .eq 7, 3) := by decide +kernel
theorem kx_180_181 : x_code k_P 180 181 = some (.iconst 1, 1) := by decide +kernel
theorem kx_180_182 : x_code k_P 180 182 = some (.goto 4, 3) := by decide +kernel
theorem kx_180_186 : x_code k_P 180 186 = some (.putfield 20, 3) := by decide +kernel
theorem kx_180_189 : x_code k_P 180 189 = some (.iload_n 2, 1) := by decide +kernel
theorem kx_180_190 : x_code k_P 180 190 = some (.ifCond .eq 8, 3) := by decide +kernel
theorem kx_180_193 : x_code k_P 180 193 = some (.bipush 6, 2) := by decide +kernel
theorem kx_180_195 : x_code k_P 180 195 = some (.goto 4, 3) := by decide +kernel
theorem kx_180_199 : x_code k_P 180 199 = some (.istore 4, 2) := by decide +kernel
theorem km_180_4 : 4 < x_maxL k_P 180 := by decide +kernel
theorem kx_180_201 : x_code k_P 180 201 = some (.iconst 0, 1) := by decide +kernel
theorem kx_180_202 : x_code k_P 180 202 = some (.istore 5, 2) := by decide +kernel
theorem km_180_5 : 5 < x_maxL k_P 180 := by decide +kernel
theorem kx_180_204 : x_code k_P 180 204 = some (.iload_n 1, 1) := by decide +kernel
theorem kx_180_205 : x_code k_P 180 205 = some (.aload_n 0, 1) := by decide +kernel
theorem kx_180_206 : x_code k_P 180 206 = some (.getfield 17, 3) := by decide +kernel
theorem kx_180_209 : x_code k_P 180 209 = some (.if_icmp .ge 142, 3) := by decide +kernel
theorem kx_180_351 : x_code k_P 180 351 = some (.aload_n 0, 1) := by decide +kernel
theorem kx_180_352 : x_code k_P 180 352 = some (.iload_n 1, 1) := by decide +kernel
theorem kx_180_353 : x_code k_P 180 353 = some (.putfield 26, 3) := by decide +kernel
theorem kx_180_356 : x_code k_P 180 356 = some (.iload_n 2, 1) := by decide +kernel
theorem kx_180_357 : x_code k_P 180 357 = some (.ifCond .eq 54, 3) := by decide +kernel
theorem kx_180_360 : x_code k_P 180 360 = some (.iload 5, 2) := by decide +kernel
theorem kx_180_362 : x_code k_P 180 362 = some (.bipush 9, 2) := by decide +kernel
theorem kx_180_364 : x_code k_P 180 364 = some (.if_icmp .ne 47, 3) := by decide +kernel
theorem kx_180_367 : x_code k_P 180 367 = some (.aload_n 0, 1) := by decide +kernel
theorem kx_180_368 : x_code k_P 180 368 = some (.getfield 32, 3) := by decide +kernel
theorem kx_180_371 : x_code k_P 180 371 = some (.ldc2_w 274, 3) := by decide +kernel
theorem kp_180_274 : x_pool k_P 180 274 = (8, 0, 7161130709559440485) := by decide +kernel
theorem kx_180_374 : x_code k_P 180 374 = some (.lcmp, 1) := by decide +kernel
theorem kx_180_375 : x_code k_P 180 375 = some (.ifCond .ne 36, 3) := by decide +kernel
theorem kx_180_378 : x_code k_P 180 378 = some (.aload_n 0, 1) := by decide +kernel
theorem kx_180_379 : x_code k_P 180 379 = some (.getfield 36, 3) := by decide +kernel
theorem kp_180_36 : x_pool k_P 180 36 = (1, 12, 8) := by decide +kernel
theorem kf_12_8 : (x_cls k_P 12)[8]? = some 0 := by decide +kernel
theorem kx_180_382 : x_code k_P 180 382 = some (.bipush 114, 2) := by decide +kernel
theorem kx_180_384 : x_code k_P 180 384 = some (.if_icmp .ne 27, 3) := by decide +kernel
theorem kx_180_387 : x_code k_P 180 387 = some (.aload_n 0, 1) := by decide +kernel
theorem kx_180_388 : x_code k_P 180 388 = some (.lconst 1, 1) := by decide +kernel
theorem kx_180_389 : x_code k_P 180 389 = some (.putfield 32, 3) := by decide +kernel
theorem kx_180_392 : x_code k_P 180 392 = some (.aload_n 0, 1) := by decide +kernel
theorem kx_180_393 : x_code k_P 180 393 = some (.getfield 51, 3) := by decide +kernel
theorem kx_180_396 : x_code k_P 180 396 = some (.aload_n 0, 1) := by decide +kernel
theorem kx_180_397 : x_code k_P 180 397 = some (.getfield 23, 3) := by decide +kernel
theorem kx_180_400 : x_code k_P 180 400 = some (.iload 4, 2) := by decide +kernel
theorem kx_180_402 : x_code k_P 180 402 = some (.iadd, 1) := by decide +kernel
theorem kx_180_403 : x_code k_P 180 403 = some (.if_icmp .ne 8, 3) := by decide +kernel
theorem kx_180_406 : x_code k_P 180 406 = some (.aload_n 0, 1) := by decide +kernel
theorem kx_180_407 : x_code k_P 180 407 = some (.iconst (-1), 1) := by decide +kernel
theorem kx_180_408 : x_code k_P 180 408 = some (.putfield 51, 3) := by decide +kernel
theorem kx_180_411 : x_code k_P 180 411 = some (.iload_n 2, 1) := by decide +kernel
theorem kx_180_412 : x_code k_P 180 412 = some (.ifCond .eq 40, 3) := by decide +kernel
theorem kx_180_415 : x_code k_P 180 415 = some (.iload 5, 2) := by decide +kernel
theorem kx_180_417 : x_code k_P 180 417 = some (.bipush 8, 2) := by decide +kernel
theorem kx_180_419 : x_code k_P 180 419 = some (.if_icmp .gt 33, 3) := by decide +kernel
theorem kx_180_452 : x_code k_P 180 452 = some (.return_, 1) := by decide +kernel
theorem kq_180 : x_retk k_P 180 = 0 := by decide +kernel
theorem kx_180_422 : x_code k_P 180 422 = some (.aload_n 0, 1) := by decide +kernel
theorem kx_180_423 : x_code k_P 180 423 = some (.getfield 51, 3) := by decide +kernel
theorem kx_180_426 : x_code k_P 180 426 = some (.aload_n 0, 1) := by decide +kernel
theorem kx_180_427 : x_code k_P 180 427 = some (.getfield 23, 3) := by decide +kernel
theorem kx_180_430 : x_code k_P 180 430 = some (.iload 4, 2) := by decide +kernel
theorem kx_180_432 : x_code k_P 180 432 = some (.iadd, 1) := by decide +kernel
theorem kx_180_433 : x_code k_P 180 433 = some (.if_icmp .ne 19, 3) := by decide +kernel
theorem kx_180_436 : x_code k_P 180 436 = some (.aload_n 0, 1) := by decide +kernel
theorem kx_180_437 : x_code k_P 180 437 = some (.aload_n 0, 1) := by decide +kernel
theorem kx_180_438 : x_code k_P 180 438 = some (.getfield 32, 3) := by decide +kernel
theorem kx_180_441 : x_code k_P 180 441 = some (.invokevirtual 276, 3) := by decide +kernel
theorem kp_180_276 : x_pool k_P 180 276 = (2, 184, 1) := by decide +kernel
theorem ki_184 : x_mci k_P 184 = 12 := by decide +kernel
theorem kcl_184 : x_maxL k_P 184 ≤ 60 ∧ 3 ≤ x_maxL k_P 184 := by decide +kernel
theorem kx_180_444 : x_code k_P 180 444 = some (.ifCond .eq 8, 3) := by decide +kernel
theorem kx_180_447 : x_code k_P 180 447 = some (.aload_n 0, 1) := by decide +kernel
theorem kx_180_448 : x_code k_P 180 448 = some (.iconst (-1), 1) := by decide +kernel
theorem kx_180_449 : x_code k_P 180 449 = some (.putfield 51, 3) := by decide +kernel
theorem kx_180_212 : x_code k_P 180 212 = some (.iload_n 2, 1) := by decide +kernel
theorem kx_180_213 : x_code k_P 180 213 = some (.ifCond .eq 18, 3) := by decide +kernel
theorem kx_180_216 : x_code k_P 180 216 = some (.aload_n 0, 1) := by decide +kernel
theorem kx_180_217 : x_code k_P 180 217 = some (.getfield 7, 3) := by decide +kernel
theorem kx_180_220 : x_code k_P 180 220 = some (.iload_n 1, 1) := by decide +kernel
theorem kx_180_221 : x_code k_P 180 221 = some (.iaload, 1) := by decide +kernel
theorem kx_180_222 : x_code k_P 180 222 = some (.invokestatic 267, 3) := by decide +kernel
theorem kx_180_225 : x_code k_P 180 225 = some (.ifCond .eq 126, 3) := by decide +kernel
theorem kx_180_228 : x_code k_P 180 228 = some (.goto 15, 3) := by decide +kernel
theorem kx_180_243 : x_code k_P 180 243 = some (.iload 5, 2) := by decide +kernel
theorem kx_180_245 : x_code k_P 180 245 = some (.iload 4, 2) := by decide +kernel
theorem kx_180_247 : x_code k_P 180 247 = some (.if_icmp .ne 16, 3) := by decide +kernel
theorem kx_180_250 : x_code k_P 180 250 = some (.aload_n 0, 1) := by decide +kernel
theorem kx_180_251 : x_code k_P 180 251 = some (.getfield 51, 3) := by decide +kernel
theorem kx_180_254 : x_code k_P 180 254 = some (.iconst (-1), 1) := by decide +kernel
theorem kx_180_255 : x_code k_P 180 255 = some (.if_icmp .ne 8, 3) := by decide +kernel
theorem kx_180_258 : x_code k_P 180 258 = some (.aload_n 0, 1) := by decide +kernel
theorem kx_180_259 : x_code k_P 180 259 = some (.iload_n 1, 1) := by decide +kernel
theorem kx_180_260 : x_code k_P 180 260 = some (.putfield 51, 3) := by decide +kernel
theorem kx_180_263 : x_code k_P 180 263 = some (.iload 5, 2) := by decide +kernel
theorem kx_180_265 : x_code k_P 180 265 = some (.bipush 8, 2) := by decide +kernel
theorem kx_180_267 : x_code k_P 180 267 = some (.if_icmp .ge 26, 3) := by decide +kernel
theorem kx_180_270 : x_code k_P 180 270 = some (.iload_n 2, 1) := by decide +kernel
theorem kx_180_271 : x_code k_P 180 271 = some (.ifCond .eq 22, 3) := by decide +kernel
theorem kx_180_274 : x_code k_P 180 274 = some (.aload_n 0, 1) := by decide +kernel
theorem kx_180_275 : x_code k_P 180 275 = some (.aload_n 0, 1) := by decide +kernel
theorem kx_180_276 : x_code k_P 180 276 = some (.getfield 32, 3) := by decide +kernel
theorem kx_180_279 : x_code k_P 180 279 = some (.bipush 8, 2) := by decide +kernel
theorem kx_180_281 : x_code k_P 180 281 = some (.lshl, 1) := by decide +kernel
theorem kx_180_282 : x_code k_P 180 282 = some (.aload_n 0, 1) := by decide +kernel
theorem kx_180_283 : x_code k_P 180 283 = some (.getfield 7, 3) := by decide +kernel
theorem kx_180_286 : x_code k_P 180 286 = some (.iload_n 1, 1) := by decide +kernel
theorem kx_180_287 : x_code k_P 180 287 = some (.iaload, 1) := by decide +kernel
theorem kx_180_288 : x_code k_P 180 288 = some (.i2l, 1) := by decide +kernel
theorem kx_180_289 : x_code k_P 180 289 = some (.lor, 1) := by decide +kernel
theorem kx_180_290 : x_code k_P 180 290 = some (.putfield 32, 3) := by decide +kernel
theorem kx_180_293 : x_code k_P 180 293 = some (.iload 5, 2) := by decide +kernel
theorem kx_180_295 : x_code k_P 180 295 = some (.bipush 8, 2) := by decide +kernel
theorem kx_180_297 : x_code k_P 180 297 = some (.if_icmp .ne 13, 3) := by decide +kernel
theorem kx_180_300 : x_code k_P 180 300 = some (.aload_n 0, 1) := by decide +kernel
theorem kx_180_301 : x_code k_P 180 301 = some (.aload_n 0, 1) := by decide +kernel
theorem kx_180_302 : x_code k_P 180 302 = some (.getfield 7, 3) := by decide +kernel
theorem kx_180_305 : x_code k_P 180 305 = some (.iload_n 1, 1) := by decide +kernel
theorem kx_180_306 : x_code k_P 180 306 = some (.iaload, 1) := by decide +kernel
theorem kx_180_307 : x_code k_P 180 307 = some (.putfield 36, 3) := by decide +kernel
theorem kx_180_310 : x_code k_P 180 310 = some (.iload 5, 2) := by decide +kernel
theorem kx_180_312 : x_code k_P 180 312 = some (.iload 4, 2) := by decide +kernel
theorem kx_180_314 : x_code k_P 180 314 = some (.if_icmp .ge 28, 3) := by decide +kernel
theorem kx_180_342 : x_code k_P 180 342 = some (.iinc 5 1, 3) := by decide +kernel
theorem kx_180_345 : x_code k_P 180 345 = some (.iinc 1 1, 3) := by decide +kernel
theorem kx_180_348 : x_code k_P 180 348 = some (.goto (-144), 3) := by decide +kernel
theorem kx_180_317 : x_code k_P 180 317 = some (.iload_n 3, 1) := by decide +kernel
theorem kx_180_318 : x_code k_P 180 318 = some (.ifCond .eq 24, 3) := by decide +kernel
theorem kx_180_321 : x_code k_P 180 321 = some (.aload_n 0, 1) := by decide +kernel
theorem kx_180_322 : x_code k_P 180 322 = some (.bipush 10, 2) := by decide +kernel
theorem kx_180_324 : x_code k_P 180 324 = some (.aload_n 0, 1) := by decide +kernel
theorem kx_180_325 : x_code k_P 180 325 = some (.getfield 29, 3) := by decide +kernel
theorem kx_180_328 : x_code k_P 180 328 = some (.imul, 1) := by decide +kernel
theorem kx_180_329 : x_code k_P 180 329 = some (.aload_n 0, 1) := by decide +kernel
theorem kx_180_330 : x_code k_P 180 330 = some (.getfield 7, 3) := by decide +kernel
theorem kx_180_333 : x_code k_P 180 333 = some (.iload_n 1, 1) := by decide +kernel
theorem kx_180_334 : x_code k_P 180 334 = some (.iaload, 1) := by decide +kernel
theorem kx_180_335 : x_code k_P 180 335 = some (.iadd, 1) := by decide +kernel
theorem kx_180_336 : x_code k_P 180 336 = some (.bipush 48, 2) := by decide +kernel
theorem kx_180_338 : x_code k_P 180 338 = some (.isub, 1) := by decide +kernel
theorem kx_180_339 : x_code k_P 180 339 = some (.putfield 29, 3) := by decide +kernel
theorem kx_180_161 : x_code k_P 180 161 = some (.iload_n 3, 1) := by decide +kernel
theorem kx_180_162 : x_code k_P 180 162 = some (.ifCond .ne 14, 3) := by decide +kernel
theorem kx_180_185 : x_code k_P 180 185 = some (.iconst 2, 1) := by decide +kernel
theorem kx_180_198 : x_code k_P 180 198 = some (.iconst 4, 1) := by decide +kernel
theorem kx_180_231 : x_code k_P 180 231 = some (.aload_n 0, 1) := by decide +kernel
theorem kx_180_232 : x_code k_P 180 232 = some (.getfield 7, 3) := by decide +kernel
theorem kx_180_235 : x_code k_P 180 235 = some (.iload_n 1, 1) := by decide +kernel
theorem kx_180_236 : x_code k_P 180 236 = some (.iaload, 1) := by decide +kernel
theorem kx_180_237 : x_code k_P 180 237 = some (.invokestatic 271, 3) := by decide +kernel
theorem kx_180_240 : x_code k_P 180 240 = some (.ifCond .eq 111, 3) := by decide +kernel
theorem kx_180_165 : x_code k_P 180 165 = some (.aload_n 0, 1) := by decide +kernel
theorem kx_180_166 : x_code k_P 180 166 = some (.aload_n 0, 1) := by decide +kernel
theorem kx_180_167 : x_code k_P 180 167 = some (.getfield 7, 3) := by decide +kernel
theorem kx_180_170 : x_code k_P 180 170 = some (.iload_n 1, 1) := by decide +kernel
theorem kx_180_171 : x_code k_P 180 171 = some (.iaload, 1) := by decide +kernel
theorem kx_180_172 : x_code k_P 180 172 = some (.putfield 29, 3) := by decide +kernel
theorem kx_180_175 : x_code k_P 180 175 = some (.return_, 1) := by decide +kernel
theorem kx_180_69 : x_code k_P 180 69 = some (.return_, 1) := by decide +kernel
theorem kx_180_13 : x_code k_P 180 13 = some (.aload_n 0, 1) := by decide +kernel
theorem kx_180_14 : x_code k_P 180 14 = some (.getfield 7, 3) := by decide +kernel
theorem kx_180_17 : x_code k_P 180 17 = some (.iload_n 1, 1) := by decide +kernel
theorem kx_180_18 : x_code k_P 180 18 = some (.iaload, 1) := by decide +kernel
theorem kx_180_19 : x_code k_P 180 19 = some (.bipush 32, 2) := by decide +kernel
theorem kx_180_21 : x_code k_P 180 21 = some (.if_icmp .eq 14, 3) := by decide +kernel
theorem kx_180_35 : x_code k_P 180 35 = some (.iinc 1 1, 3) := by decide +kernel
theorem kx_180_38 : x_code k_P 180 38 = some (.goto (-33), 3) := by decide +kernel
theorem kx_180_24 : x_code k_P 180 24 = some (.aload_n 0, 1) := by decide +kernel
theorem kx_180_25 : x_code k_P 180 25 = some (.getfield 7, 3) := by decide +kernel
theorem kx_180_28 : x_code k_P 180 28 = some (.iload_n 1, 1) := by decide +kernel
theorem kx_180_29 : x_code k_P 180 29 = some (.iaload, 1) := by decide +kernel
theorem kx_180_30 : x_code k_P 180 30 = some (.bipush 10, 2) := by decide +kernel
theorem kx_180_32 : x_code k_P 180 32 = some (.if_icmp .ne 9, 3) := by decide +kernel
def fS_180_j247 : List (Nat × Nat) := [(63, 13)]
def fS_180_j267 : List (Nat × Nat) := [(63, 7)]
def fS_180_j297 : List (Nat × Nat) := [(63, 8)]
def fS_180_j364 : List (Nat × Nat) := [(63, 13), (63, 7)]
def fS_180_j91 : List (Nat × Nat) := [(63, 13)]
def fS_180_l204 : List (Nat × Nat) := [(63, 13), (63, 6), (63, 7), (63, 8)]
def fS_180_m : List (Nat × Nat) := [(63, 13), (63, 3), (63, 4), (63, 5), (63, 6), (63, 7), (63, 8)]
def fS_180_l5 : List (Nat × Nat) := []
theorem m_180 {xs : Nat → Int} {Ln d : Nat} {T : List cK} {M : cM} (hT : TT T) (hI : Rng M) : cC k_P xs Ln (d + 1) 180 [rf 63] (T, M) (qV T M fS_180_m (fun M1 => M 63 5 ≤ M1 63 4 ∧ M1 63 4 ≤ M1 63 5 ∧ (M1 63 3 = 0 ∨ M1 63 4 + 1 ≤ M1 63 5))) := by
  show cP k_P xs Ln (d + 1) 180 0 [(0, rf 63)] [] (T, M) _
  have hFm : Fr fS_180_m M M := Fr.refl
  have h639 := rg_63_9 hI
  refine s_aload_n kx_180_0 rfl ?_
  refine r_getI (k := 63) (f := 5) kx_180_1 kp_180_26 (tk_63 hT) kf_12_5 (fun _ => rfl) (rg_63_5 hI) (fun v1 v1e v1a v1b => ?_)
  refine s_istore_n kx_180_4 km_180_1 rfl ?_
  have key3 : ∀ n4 : Nat, ∀ (x1_2 : Int), (0 ≤ x1_2) → (x1_2 ≤ 1600) → (M 63 5 ≤ x1_2) → (2147483647 - x1_2).toNat < n4 → cP k_P xs Ln (d + 1) 180 5 [(0, rf 63), (1, (0, x1_2))] [] (T, M) (qV T M fS_180_m (fun M1 => M 63 5 ≤ M1 63 4 ∧ M1 63 4 ≤ M1 63 5 ∧ (M1 63 3 = 0 ∨ M1 63 4 + 1 ≤ M1 63 5))) := by
    intro n4
    induction n4 with
    | zero => intro x1_2 i5 i6 i7 hm8; exact absurd hm8 (Nat.not_lt_zero _)
    | succ n4 ih9 =>
      intro x1_2 i5 i6 i7 hm8
      refine s_iload_n kx_180_5 rfl ?_
      refine s_aload_n kx_180_6 rfl ?_
      refine r_getI (k := 63) (f := 2) kx_180_7 kp_180_17 (tk_63 hT) kf_12_2 (fun _ => rfl) (rg_63_2 hI) (fun v10 v10e v10a v10b => ?_)
      refine s_icmp_ge (t := 41) kx_180_10 (by decide) (fun hc11 => ?_) (fun hc11 => ?_)
      · refine s_aload_n kx_180_41 rfl ?_
        refine s_iload_n kx_180_42 rfl ?_
        refine r_put (k := 63) (f := 4) kx_180_43 kp_180_23 (tk_63 hT) kf_12_4 rfl (by decide) (by decide) hI (ru_63_4 (by omega) (by omega)) (fun M12 hI12 u12 => ?_)
        have hFm12 := hFm.up u12 rfl
        refine s_aload_n kx_180_46 rfl ?_
        refine s_iload_n kx_180_47 rfl ?_
        refine r_put (k := 63) (f := 5) kx_180_48 kp_180_26 (tk_63 hT) kf_12_5 rfl (by decide) (by decide) hI12 (ru_63_5 (by omega) (by omega)) (fun M13 hI13 u13 => ?_)
        have hFm13 := hFm12.up u13 rfl
        refine s_aload_n kx_180_51 rfl ?_
        refine s_iconst (v := 0) kx_180_52 (by decide) ?_
        refine r_put (k := 63) (f := 3) kx_180_53 kp_180_20 (tk_63 hT) kf_12_3 rfl (by decide) (by decide) hI13 (ru_63_3 (by omega) (by omega)) (fun M14 hI14 u14 => ?_)
        have hFm14 := hFm13.up u14 rfl
        refine s_aload_n kx_180_56 rfl ?_
        refine s_iconst (v := (-1)) kx_180_57 (by decide) ?_
        refine r_put (k := 63) (f := 13) kx_180_58 kp_180_51 (tk_63 hT) kf_12_13 rfl (by decide) (by decide) hI14 (ru_63_13 (by omega) (by omega)) (fun M15 hI15 u15 => ?_)
        have hFm15 := hFm14.up u15 rfl
        refine s_iload_n kx_180_61 rfl ?_
        refine s_aload_n kx_180_62 rfl ?_
        refine r_getK (k := 63) (f := 2) kx_180_63 kp_180_17 (tk_63 hT) kf_12_2 (fun _ => rfl) ((u15.2 63 2 (by omega)).trans ((u14.2 63 2 (by omega)).trans ((u13.2 63 2 (by omega)).trans ((u12.2 63 2 (by omega)).trans v10e)))) ?_
        refine s_icmp_lt (t := 70) kx_180_66 (by decide) (fun hc16 => ?_) (fun hc16 => ?_)
        · refine s_aload_n kx_180_70 rfl ?_
          refine r_getR (k := 63) (f := 0) (k2 := 64) kx_180_71 kp_180_7 (tk_63 hT) kf_12_0 (by decide) (rq_63_0 hI15) ?_
          refine s_iload_n kx_180_74 rfl ?_
          refine r_ald (k := 64) kx_180_75 (tk_64 hT) ⟨by omega, by omega⟩ (rg_64 hI15) (fun v17 v17e v17a v17b => ?_)
          refine s_callS2 (s1 := 1) (s2 := 0) (as := [(0, v17)]) (rest := []) kx_180_76 kp_180_267 rfl kcl_177 rfl rfl (by decide) (m_177 (d := d) (c := v17) hT hI15) (kF (fun v18 v18p => ?_))
          refine s_istore_n kx_180_79 km_180_2 rfl ?_
          refine s_aload_n kx_180_80 rfl ?_
          refine r_getR (k := 63) (f := 0) (k2 := 64) kx_180_81 kp_180_7 (tk_63 hT) kf_12_0 (by decide) (rq_63_0 hI15) ?_
          refine s_iload_n kx_180_84 rfl ?_
          refine r_aldK (k := 64) kx_180_85 (tk_64 hT) ⟨by omega, by omega⟩ v17e ?_
          refine s_callS2 (s1 := 1) (s2 := 0) (as := [(0, v17)]) (rest := []) kx_180_86 kp_180_271 rfl kcl_178 rfl rfl (by decide) (m_178 (d := d) (c := v17) hT hI15) (kF (fun v19 v19p => ?_))
          refine s_istore_n kx_180_89 km_180_3 rfl ?_
          refine s_iload_n kx_180_90 rfl ?_
          have jn40 : ∀ M41 : cM, Rng M41 → Fr fS_180_j91 M15 M41 → Fr fS_180_m M M41 → cP k_P xs Ln (d + 1) 180 135 [(0, rf 63), (1, (0, x1_2)), (2, (0, v18)), (3, (0, v19))] [] (T, M41) (qV T M fS_180_m (fun M1 => M 63 5 ≤ M1 63 4 ∧ M1 63 4 ≤ M1 63 5 ∧ (M1 63 3 = 0 ∨ M1 63 4 + 1 ≤ M1 63 5))) := by
            intro M41 hI41 fj41 hFm41
            refine s_aload_n kx_180_135 rfl ?_
            refine s_iconst (v := 0) kx_180_136 (by decide) ?_
            refine r_put (k := 63) (f := 6) kx_180_137 kp_180_29 (tk_63 hT) kf_12_6 rfl (by decide) (by decide) hI41 ru_63_6 (fun M42 hI42 u42 => ?_)
            have hFm42 := hFm41.up u42 rfl
            refine s_aload_n kx_180_140 rfl ?_
            refine s_lconst (v := 0) kx_180_141 (by decide) ?_
            refine r_put (k := 63) (f := 7) kx_180_142 kp_180_32 (tk_63 hT) kf_12_7 rfl (by decide) (by decide) hI42 ru_63_7 (fun M43 hI43 u43 => ?_)
            have hFm43 := hFm42.up u43 rfl
            refine s_aload_n kx_180_145 rfl ?_
            refine s_iconst (v := 3) kx_180_146 (by decide) ?_
            refine r_put (k := 63) (f := 3) kx_180_147 kp_180_20 (tk_63 hT) kf_12_3 rfl (by decide) (by decide) hI43 (ru_63_3 (by omega) (by omega)) (fun M44 hI44 u44 => ?_)
            have hFm44 := hFm43.up u44 rfl
            refine s_aload_n kx_180_150 rfl ?_
            refine s_iload_n kx_180_151 rfl ?_
            refine s_iconst (v := 1) kx_180_152 (by decide) ?_
            refine r_add kx_180_153 ⟨by omega, by omega⟩ ?_
            refine r_put (k := 63) (f := 5) kx_180_154 kp_180_26 (tk_63 hT) kf_12_5 rfl (by decide) (by decide) hI44 (ru_63_5 (by omega) (by omega)) (fun M45 hI45 u45 => ?_)
            have hFm45 := hFm44.up u45 rfl
            refine s_iload_n kx_180_157 rfl ?_
            refine s_if_ne (t := 176) kx_180_158 (by decide) (fun hc46 => ?_) (fun hc46 => ?_)
            · refine s_aload_n kx_180_176 rfl ?_
              refine s_iload_n kx_180_177 rfl ?_
              refine s_if_eq (t := 185) kx_180_178 (by decide) (fun hc47 => absurd hc47 (by omega)) (fun hc47 => ?_)
              refine s_iconst (v := 1) kx_180_181 (by decide) ?_
              refine s_goto (t := 186) kx_180_182 (by decide) ?_
              refine r_put (k := 63) (f := 3) kx_180_186 kp_180_20 (tk_63 hT) kf_12_3 rfl (by decide) (by decide) hI45 (ru_63_3 (by omega) (by omega)) (fun M48 hI48 u48 => ?_)
              have hFm48 := hFm45.up u48 rfl
              refine s_iload_n kx_180_189 rfl ?_
              refine s_if_eq (t := 198) kx_180_190 (by decide) (fun hc49 => absurd hc49 (by omega)) (fun hc49 => ?_)
              refine s_bipush (v := 6) kx_180_193 (by decide) ?_
              refine s_goto (t := 199) kx_180_195 (by decide) ?_
              refine s_istore kx_180_199 km_180_4 rfl ?_
              refine s_iconst (v := 0) kx_180_201 (by decide) ?_
              refine s_istore kx_180_202 km_180_5 rfl ?_
              have key53 : ∀ n54 : Nat, ∀ (x1_50 x5_51 : Int), ∀ M52 : cM, Rng M52 → Fr fS_180_m M M52 → Fr fS_180_l204 M48 M52 → (0 ≤ x1_50) → (x1_50 ≤ 1600) → (0 ≤ x5_51) → (x5_51 ≤ 1600) → (x1_2 ≤ x1_50) → (x5_51 ≤ x1_50) → (2147483647 - x5_51).toNat < n54 → cP k_P xs Ln (d + 1) 180 204 [(0, rf 63), (1, (0, x1_50)), (2, (0, v18)), (3, (0, v19)), (4, (0, 6)), (5, (0, x5_51))] [] (T, M52) (qV T M fS_180_m (fun M1 => M 63 5 ≤ M1 63 4 ∧ M1 63 4 ≤ M1 63 5 ∧ (M1 63 3 = 0 ∨ M1 63 4 + 1 ≤ M1 63 5))) := by
                intro n54
                induction n54 with
                | zero => intro x1_50 x5_51 M52 hI52 hFm52 fl52 i55 i56 i57 i58 i59 i60 hm61; exact absurd hm61 (Nat.not_lt_zero _)
                | succ n54 ih62 =>
                  intro x1_50 x5_51 M52 hI52 hFm52 fl52 i55 i56 i57 i58 i59 i60 hm61
                  refine s_iload_n kx_180_204 rfl ?_
                  refine s_aload_n kx_180_205 rfl ?_
                  refine r_getK (k := 63) (f := 2) kx_180_206 kp_180_17 (tk_63 hT) kf_12_2 (fun _ => rfl) ((fl52 63 2 rfl).trans ((u48.2 63 2 (by omega)).trans ((u45.2 63 2 (by omega)).trans ((u44.2 63 2 (by omega)).trans ((u43.2 63 2 (by omega)).trans ((u42.2 63 2 (by omega)).trans ((fj41 63 2 rfl).trans ((u15.2 63 2 (by omega)).trans ((u14.2 63 2 (by omega)).trans ((u13.2 63 2 (by omega)).trans ((u12.2 63 2 (by omega)).trans v10e))))))))))) ?_
                  refine s_icmp_ge (t := 351) kx_180_209 (by decide) (fun hc63 => ?_) (fun hc63 => ?_)
                  · refine s_aload_n kx_180_351 rfl ?_
                    refine s_iload_n kx_180_352 rfl ?_
                    refine r_put (k := 63) (f := 5) kx_180_353 kp_180_26 (tk_63 hT) kf_12_5 rfl (by decide) (by decide) hI52 (ru_63_5 (by omega) (by omega)) (fun M64 hI64 u64 => ?_)
                    have hFm64 := hFm52.up u64 rfl
                    refine s_iload_n kx_180_356 rfl ?_
                    refine s_if_eq (t := 411) kx_180_357 (by decide) (fun hc65 => absurd hc65 (by omega)) (fun hc65 => ?_)
                    refine s_iload kx_180_360 rfl ?_
                    refine s_bipush (v := 9) kx_180_362 (by decide) ?_
                    have jn78 : ∀ M79 : cM, Rng M79 → Fr fS_180_j364 M64 M79 → Fr fS_180_m M M79 → cP k_P xs Ln (d + 1) 180 411 [(0, rf 63), (2, (0, v18)), (4, (0, 6)), (5, (0, x5_51))] [] (T, M79) (qV T M fS_180_m (fun M1 => M 63 5 ≤ M1 63 4 ∧ M1 63 4 ≤ M1 63 5 ∧ (M1 63 3 = 0 ∨ M1 63 4 + 1 ≤ M1 63 5))) := by
                      intro M79 hI79 fj79 hFm79
                      refine s_iload_n kx_180_411 rfl ?_
                      refine s_if_eq (t := 452) kx_180_412 (by decide) (fun hc80 => absurd hc80 (by omega)) (fun hc80 => ?_)
                      refine s_iload kx_180_415 rfl ?_
                      refine s_bipush (v := 8) kx_180_417 (by decide) ?_
                      refine s_icmp_gt (t := 452) kx_180_419 (by decide) (fun hc81 => ?_) (fun hc81 => ?_)
                      · have hk82 : M79 63 3 = 1 := ((fj79 63 3 rfl).trans ((u64.2 63 3 (by omega)).trans ((fl52 63 3 rfl).trans u48.1)))
                        have hk83 : M79 63 4 = x1_2 := ((fj79 63 4 rfl).trans ((u64.2 63 4 (by omega)).trans ((fl52 63 4 rfl).trans ((u48.2 63 4 (by omega)).trans ((u45.2 63 4 (by omega)).trans ((u44.2 63 4 (by omega)).trans ((u43.2 63 4 (by omega)).trans ((u42.2 63 4 (by omega)).trans ((fj41 63 4 rfl).trans ((u15.2 63 4 (by omega)).trans ((u14.2 63 4 (by omega)).trans ((u13.2 63 4 (by omega)).trans u12.1))))))))))))
                        have hk84 : M79 63 5 = x1_50 := ((fj79 63 5 rfl).trans u64.1)
                        exact s_vret kx_180_452 kq_180 ⟨_, rfl, rfl, hI79, hFm79, (by omega)⟩
                      · refine s_aload_n kx_180_422 rfl ?_
                        refine r_getI (k := 63) (f := 13) kx_180_423 kp_180_51 (tk_63 hT) kf_12_13 (fun _ => rfl) (rg_63_13 hI79) (fun v85 v85e v85a v85b => ?_)
                        refine s_aload_n kx_180_426 rfl ?_
                        refine r_getK (k := 63) (f := 4) kx_180_427 kp_180_23 (tk_63 hT) kf_12_4 (fun _ => rfl) ((fj79 63 4 rfl).trans ((u64.2 63 4 (by omega)).trans ((fl52 63 4 rfl).trans ((u48.2 63 4 (by omega)).trans ((u45.2 63 4 (by omega)).trans ((u44.2 63 4 (by omega)).trans ((u43.2 63 4 (by omega)).trans ((u42.2 63 4 (by omega)).trans ((fj41 63 4 rfl).trans ((u15.2 63 4 (by omega)).trans ((u14.2 63 4 (by omega)).trans ((u13.2 63 4 (by omega)).trans u12.1)))))))))))) ?_
                        refine s_iload kx_180_430 rfl ?_
                        refine r_add kx_180_432 ⟨by omega, by omega⟩ ?_
                        refine s_icmp_ne (t := 452) kx_180_433 (by decide) (fun hc86 => ?_) (fun hc86 => ?_)
                        · have hk87 : M79 63 3 = 1 := ((fj79 63 3 rfl).trans ((u64.2 63 3 (by omega)).trans ((fl52 63 3 rfl).trans u48.1)))
                          have hk88 : M79 63 4 = x1_2 := ((fj79 63 4 rfl).trans ((u64.2 63 4 (by omega)).trans ((fl52 63 4 rfl).trans ((u48.2 63 4 (by omega)).trans ((u45.2 63 4 (by omega)).trans ((u44.2 63 4 (by omega)).trans ((u43.2 63 4 (by omega)).trans ((u42.2 63 4 (by omega)).trans ((fj41 63 4 rfl).trans ((u15.2 63 4 (by omega)).trans ((u14.2 63 4 (by omega)).trans ((u13.2 63 4 (by omega)).trans u12.1))))))))))))
                          have hk89 : M79 63 5 = x1_50 := ((fj79 63 5 rfl).trans u64.1)
                          exact s_vret kx_180_452 kq_180 ⟨_, rfl, rfl, hI79, hFm79, (by omega)⟩
                        · refine s_aload_n kx_180_436 rfl ?_
                          refine s_aload_n kx_180_437 rfl ?_
                          refine r_getU (k := 63) (f := 7) kx_180_438 kp_180_32 (tk_63 hT) kf_12_7 (fun _ => rfl) (fun v90 v90e => ?_)
                          refine s_callV2 (k := 63) (s1 := 3) (s2 := 0) (as := [(1, v90)]) (rest := []) kx_180_441 kp_180_276 (Or.inl rfl) rfl (tk_63 hT) ki_184 kcl_184 rfl rfl (by decide) (m_184 (d := d) (w := v90) hT hI79) (kF (fun v91 v91p => ?_))
                          refine s_if_eq (t := 452) kx_180_444 (by decide) (fun hc92 => ?_) (fun hc92 => ?_)
                          · have hk93 : M79 63 3 = 1 := ((fj79 63 3 rfl).trans ((u64.2 63 3 (by omega)).trans ((fl52 63 3 rfl).trans u48.1)))
                            have hk94 : M79 63 4 = x1_2 := ((fj79 63 4 rfl).trans ((u64.2 63 4 (by omega)).trans ((fl52 63 4 rfl).trans ((u48.2 63 4 (by omega)).trans ((u45.2 63 4 (by omega)).trans ((u44.2 63 4 (by omega)).trans ((u43.2 63 4 (by omega)).trans ((u42.2 63 4 (by omega)).trans ((fj41 63 4 rfl).trans ((u15.2 63 4 (by omega)).trans ((u14.2 63 4 (by omega)).trans ((u13.2 63 4 (by omega)).trans u12.1))))))))))))
                            have hk95 : M79 63 5 = x1_50 := ((fj79 63 5 rfl).trans u64.1)
                            exact s_vret kx_180_452 kq_180 ⟨_, rfl, rfl, hI79, hFm79, (by omega)⟩
                          · refine s_aload_n kx_180_447 rfl ?_
                            refine s_iconst (v := (-1)) kx_180_448 (by decide) ?_
                            refine r_put (k := 63) (f := 13) kx_180_449 kp_180_51 (tk_63 hT) kf_12_13 rfl (by decide) (by decide) hI79 (ru_63_13 (by omega) (by omega)) (fun M96 hI96 u96 => ?_)
                            have hFm96 := hFm79.up u96 rfl
                            have hk97 : M96 63 3 = 1 := ((u96.2 63 3 (by omega)).trans ((fj79 63 3 rfl).trans ((u64.2 63 3 (by omega)).trans ((fl52 63 3 rfl).trans u48.1))))
                            have hk98 : M96 63 4 = x1_2 := ((u96.2 63 4 (by omega)).trans ((fj79 63 4 rfl).trans ((u64.2 63 4 (by omega)).trans ((fl52 63 4 rfl).trans ((u48.2 63 4 (by omega)).trans ((u45.2 63 4 (by omega)).trans ((u44.2 63 4 (by omega)).trans ((u43.2 63 4 (by omega)).trans ((u42.2 63 4 (by omega)).trans ((fj41 63 4 rfl).trans ((u15.2 63 4 (by omega)).trans ((u14.2 63 4 (by omega)).trans ((u13.2 63 4 (by omega)).trans u12.1)))))))))))))
                            have hk99 : M96 63 5 = x1_50 := ((u96.2 63 5 (by omega)).trans ((fj79 63 5 rfl).trans u64.1))
                            exact s_vret kx_180_452 kq_180 ⟨_, rfl, rfl, hI96, hFm96, (by omega)⟩
                    refine s_icmp_ne (t := 411) kx_180_364 (by decide) (fun hc66 => ?_) (fun hc66 => ?_)
                    · have hJ67 : Fr fS_180_j364 M64 M64 := Fr.refl
                      exact cP.wk (lS1 rfl (lS1 rfl (lS1 rfl (lS1 rfl lS0)))) (jn78 M64 hI64 hJ67 hFm64)
                    · have hJ68 : Fr fS_180_j364 M64 M64 := Fr.refl
                      refine s_aload_n kx_180_367 rfl ?_
                      refine r_getU (k := 63) (f := 7) kx_180_368 kp_180_32 (tk_63 hT) kf_12_7 (fun _ => rfl) (fun v69 v69e => ?_)
                      refine s_ldc2_w kx_180_371 kp_180_274 ?_
                      refine r_lcmpR kx_180_374 (fun v70 => ?_)
                      refine s_if_ne (t := 411) kx_180_375 (by decide) (fun hc71 => ?_) (fun hc71 => ?_)
                      · exact cP.wk (lS1 rfl (lS1 rfl (lS1 rfl (lS1 rfl lS0)))) (jn78 M64 hI64 hJ68 hFm64)
                      · refine s_aload_n kx_180_378 rfl ?_
                        refine r_getU (k := 63) (f := 8) kx_180_379 kp_180_36 (tk_63 hT) kf_12_8 (fun _ => rfl) (fun v72 v72e => ?_)
                        refine s_bipush (v := 114) kx_180_382 (by decide) ?_
                        refine s_icmp_ne (t := 411) kx_180_384 (by decide) (fun hc73 => ?_) (fun hc73 => ?_)
                        · exact cP.wk (lS1 rfl (lS1 rfl (lS1 rfl (lS1 rfl lS0)))) (jn78 M64 hI64 hJ68 hFm64)
                        · refine s_aload_n kx_180_387 rfl ?_
                          refine s_lconst (v := 1) kx_180_388 (by decide) ?_
                          refine r_put (k := 63) (f := 7) kx_180_389 kp_180_32 (tk_63 hT) kf_12_7 rfl (by decide) (by decide) hI64 ru_63_7 (fun M74 hI74 u74 => ?_)
                          have hFm74 := hFm64.up u74 rfl
                          have hFj36474 := hJ68.up u74 rfl
                          refine s_aload_n kx_180_392 rfl ?_
                          refine r_getI (k := 63) (f := 13) kx_180_393 kp_180_51 (tk_63 hT) kf_12_13 (fun _ => rfl) (rg_63_13 hI74) (fun v75 v75e v75a v75b => ?_)
                          refine s_aload_n kx_180_396 rfl ?_
                          refine r_getK (k := 63) (f := 4) kx_180_397 kp_180_23 (tk_63 hT) kf_12_4 (fun _ => rfl) ((u74.2 63 4 (by omega)).trans ((u64.2 63 4 (by omega)).trans ((fl52 63 4 rfl).trans ((u48.2 63 4 (by omega)).trans ((u45.2 63 4 (by omega)).trans ((u44.2 63 4 (by omega)).trans ((u43.2 63 4 (by omega)).trans ((u42.2 63 4 (by omega)).trans ((fj41 63 4 rfl).trans ((u15.2 63 4 (by omega)).trans ((u14.2 63 4 (by omega)).trans ((u13.2 63 4 (by omega)).trans u12.1)))))))))))) ?_
                          refine s_iload kx_180_400 rfl ?_
                          refine r_add kx_180_402 ⟨by omega, by omega⟩ ?_
                          refine s_icmp_ne (t := 411) kx_180_403 (by decide) (fun hc76 => ?_) (fun hc76 => ?_)
                          · exact cP.wk (lS1 rfl (lS1 rfl (lS1 rfl (lS1 rfl lS0)))) (jn78 M74 hI74 hFj36474 hFm74)
                          · refine s_aload_n kx_180_406 rfl ?_
                            refine s_iconst (v := (-1)) kx_180_407 (by decide) ?_
                            refine r_put (k := 63) (f := 13) kx_180_408 kp_180_51 (tk_63 hT) kf_12_13 rfl (by decide) (by decide) hI74 (ru_63_13 (by omega) (by omega)) (fun M77 hI77 u77 => ?_)
                            have hFm77 := hFm74.up u77 rfl
                            have hFj36477 := hFj36474.up u77 rfl
                            exact cP.wk (lS1 rfl (lS1 rfl (lS1 rfl (lS1 rfl lS0)))) (jn78 M77 hI77 hFj36477 hFm77)
                  · refine s_iload_n kx_180_212 rfl ?_
                    refine s_if_eq (t := 231) kx_180_213 (by decide) (fun hc100 => absurd hc100 (by omega)) (fun hc100 => ?_)
                    refine s_aload_n kx_180_216 rfl ?_
                    refine r_getR (k := 63) (f := 0) (k2 := 64) kx_180_217 kp_180_7 (tk_63 hT) kf_12_0 (by decide) (rq_63_0 hI52) ?_
                    refine s_iload_n kx_180_220 rfl ?_
                    refine r_ald (k := 64) kx_180_221 (tk_64 hT) ⟨by omega, by omega⟩ (rg_64 hI52) (fun v101 v101e v101a v101b => ?_)
                    refine s_callS2 (s1 := 1) (s2 := 0) (as := [(0, v101)]) (rest := []) kx_180_222 kp_180_267 rfl kcl_177 rfl rfl (by decide) (m_177 (d := d) (c := v101) hT hI52) (kF (fun v102 v102p => ?_))
                    refine s_if_eq (t := 351) kx_180_225 (by decide) (fun hc103 => ?_) (fun hc103 => ?_)
                    · replace v102p := v102p.resolve_left (by omega)
                      have hge : x1_2 + 1 ≤ x1_50 := if e : x1_50 = x1_2 then absurd (v101e) (by rw [e, ((fl52 64 _ rfl).trans ((u48.2 64 _ (by omega)).trans ((u45.2 64 _ (by omega)).trans ((u44.2 64 _ (by omega)).trans ((u43.2 64 _ (by omega)).trans ((u42.2 64 _ (by omega)).trans ((fj41 64 _ rfl).trans v17e)))))))]; omega) else (by omega)
                      refine s_aload_n kx_180_351 rfl ?_
                      refine s_iload_n kx_180_352 rfl ?_
                      refine r_put (k := 63) (f := 5) kx_180_353 kp_180_26 (tk_63 hT) kf_12_5 rfl (by decide) (by decide) hI52 (ru_63_5 (by omega) (by omega)) (fun M104 hI104 u104 => ?_)
                      have hFm104 := hFm52.up u104 rfl
                      refine s_iload_n kx_180_356 rfl ?_
                      refine s_if_eq (t := 411) kx_180_357 (by decide) (fun hc105 => absurd hc105 (by omega)) (fun hc105 => ?_)
                      refine s_iload kx_180_360 rfl ?_
                      refine s_bipush (v := 9) kx_180_362 (by decide) ?_
                      have jn118 : ∀ M119 : cM, Rng M119 → Fr fS_180_j364 M104 M119 → Fr fS_180_m M M119 → cP k_P xs Ln (d + 1) 180 411 [(0, rf 63), (2, (0, v18)), (4, (0, 6)), (5, (0, x5_51))] [] (T, M119) (qV T M fS_180_m (fun M1 => M 63 5 ≤ M1 63 4 ∧ M1 63 4 ≤ M1 63 5 ∧ (M1 63 3 = 0 ∨ M1 63 4 + 1 ≤ M1 63 5))) := by
                        intro M119 hI119 fj119 hFm119
                        refine s_iload_n kx_180_411 rfl ?_
                        refine s_if_eq (t := 452) kx_180_412 (by decide) (fun hc120 => absurd hc120 (by omega)) (fun hc120 => ?_)
                        refine s_iload kx_180_415 rfl ?_
                        refine s_bipush (v := 8) kx_180_417 (by decide) ?_
                        refine s_icmp_gt (t := 452) kx_180_419 (by decide) (fun hc121 => ?_) (fun hc121 => ?_)
                        · have hk122 : M119 63 3 = 1 := ((fj119 63 3 rfl).trans ((u104.2 63 3 (by omega)).trans ((fl52 63 3 rfl).trans u48.1)))
                          have hk123 : M119 63 4 = x1_2 := ((fj119 63 4 rfl).trans ((u104.2 63 4 (by omega)).trans ((fl52 63 4 rfl).trans ((u48.2 63 4 (by omega)).trans ((u45.2 63 4 (by omega)).trans ((u44.2 63 4 (by omega)).trans ((u43.2 63 4 (by omega)).trans ((u42.2 63 4 (by omega)).trans ((fj41 63 4 rfl).trans ((u15.2 63 4 (by omega)).trans ((u14.2 63 4 (by omega)).trans ((u13.2 63 4 (by omega)).trans u12.1))))))))))))
                          have hk124 : M119 63 5 = x1_50 := ((fj119 63 5 rfl).trans u104.1)
                          exact s_vret kx_180_452 kq_180 ⟨_, rfl, rfl, hI119, hFm119, (by omega)⟩
                        · refine s_aload_n kx_180_422 rfl ?_
                          refine r_getI (k := 63) (f := 13) kx_180_423 kp_180_51 (tk_63 hT) kf_12_13 (fun _ => rfl) (rg_63_13 hI119) (fun v125 v125e v125a v125b => ?_)
                          refine s_aload_n kx_180_426 rfl ?_
                          refine r_getK (k := 63) (f := 4) kx_180_427 kp_180_23 (tk_63 hT) kf_12_4 (fun _ => rfl) ((fj119 63 4 rfl).trans ((u104.2 63 4 (by omega)).trans ((fl52 63 4 rfl).trans ((u48.2 63 4 (by omega)).trans ((u45.2 63 4 (by omega)).trans ((u44.2 63 4 (by omega)).trans ((u43.2 63 4 (by omega)).trans ((u42.2 63 4 (by omega)).trans ((fj41 63 4 rfl).trans ((u15.2 63 4 (by omega)).trans ((u14.2 63 4 (by omega)).trans ((u13.2 63 4 (by omega)).trans u12.1)))))))))))) ?_
                          refine s_iload kx_180_430 rfl ?_
                          refine r_add kx_180_432 ⟨by omega, by omega⟩ ?_
                          refine s_icmp_ne (t := 452) kx_180_433 (by decide) (fun hc126 => ?_) (fun hc126 => ?_)
                          · have hk127 : M119 63 3 = 1 := ((fj119 63 3 rfl).trans ((u104.2 63 3 (by omega)).trans ((fl52 63 3 rfl).trans u48.1)))
                            have hk128 : M119 63 4 = x1_2 := ((fj119 63 4 rfl).trans ((u104.2 63 4 (by omega)).trans ((fl52 63 4 rfl).trans ((u48.2 63 4 (by omega)).trans ((u45.2 63 4 (by omega)).trans ((u44.2 63 4 (by omega)).trans ((u43.2 63 4 (by omega)).trans ((u42.2 63 4 (by omega)).trans ((fj41 63 4 rfl).trans ((u15.2 63 4 (by omega)).trans ((u14.2 63 4 (by omega)).trans ((u13.2 63 4 (by omega)).trans u12.1))))))))))))
                            have hk129 : M119 63 5 = x1_50 := ((fj119 63 5 rfl).trans u104.1)
                            exact s_vret kx_180_452 kq_180 ⟨_, rfl, rfl, hI119, hFm119, (by omega)⟩
                          · refine s_aload_n kx_180_436 rfl ?_
                            refine s_aload_n kx_180_437 rfl ?_
                            refine r_getU (k := 63) (f := 7) kx_180_438 kp_180_32 (tk_63 hT) kf_12_7 (fun _ => rfl) (fun v130 v130e => ?_)
                            refine s_callV2 (k := 63) (s1 := 3) (s2 := 0) (as := [(1, v130)]) (rest := []) kx_180_441 kp_180_276 (Or.inl rfl) rfl (tk_63 hT) ki_184 kcl_184 rfl rfl (by decide) (m_184 (d := d) (w := v130) hT hI119) (kF (fun v131 v131p => ?_))
                            refine s_if_eq (t := 452) kx_180_444 (by decide) (fun hc132 => ?_) (fun hc132 => ?_)
                            · have hk133 : M119 63 3 = 1 := ((fj119 63 3 rfl).trans ((u104.2 63 3 (by omega)).trans ((fl52 63 3 rfl).trans u48.1)))
                              have hk134 : M119 63 4 = x1_2 := ((fj119 63 4 rfl).trans ((u104.2 63 4 (by omega)).trans ((fl52 63 4 rfl).trans ((u48.2 63 4 (by omega)).trans ((u45.2 63 4 (by omega)).trans ((u44.2 63 4 (by omega)).trans ((u43.2 63 4 (by omega)).trans ((u42.2 63 4 (by omega)).trans ((fj41 63 4 rfl).trans ((u15.2 63 4 (by omega)).trans ((u14.2 63 4 (by omega)).trans ((u13.2 63 4 (by omega)).trans u12.1))))))))))))
                              have hk135 : M119 63 5 = x1_50 := ((fj119 63 5 rfl).trans u104.1)
                              exact s_vret kx_180_452 kq_180 ⟨_, rfl, rfl, hI119, hFm119, (by omega)⟩
                            · refine s_aload_n kx_180_447 rfl ?_
                              refine s_iconst (v := (-1)) kx_180_448 (by decide) ?_
                              refine r_put (k := 63) (f := 13) kx_180_449 kp_180_51 (tk_63 hT) kf_12_13 rfl (by decide) (by decide) hI119 (ru_63_13 (by omega) (by omega)) (fun M136 hI136 u136 => ?_)
                              have hFm136 := hFm119.up u136 rfl
                              have hk137 : M136 63 3 = 1 := ((u136.2 63 3 (by omega)).trans ((fj119 63 3 rfl).trans ((u104.2 63 3 (by omega)).trans ((fl52 63 3 rfl).trans u48.1))))
                              have hk138 : M136 63 4 = x1_2 := ((u136.2 63 4 (by omega)).trans ((fj119 63 4 rfl).trans ((u104.2 63 4 (by omega)).trans ((fl52 63 4 rfl).trans ((u48.2 63 4 (by omega)).trans ((u45.2 63 4 (by omega)).trans ((u44.2 63 4 (by omega)).trans ((u43.2 63 4 (by omega)).trans ((u42.2 63 4 (by omega)).trans ((fj41 63 4 rfl).trans ((u15.2 63 4 (by omega)).trans ((u14.2 63 4 (by omega)).trans ((u13.2 63 4 (by omega)).trans u12.1)))))))))))))
                              have hk139 : M136 63 5 = x1_50 := ((u136.2 63 5 (by omega)).trans ((fj119 63 5 rfl).trans u104.1))
                              exact s_vret kx_180_452 kq_180 ⟨_, rfl, rfl, hI136, hFm136, (by omega)⟩
                      refine s_icmp_ne (t := 411) kx_180_364 (by decide) (fun hc106 => ?_) (fun hc106 => ?_)
                      · have hJ107 : Fr fS_180_j364 M104 M104 := Fr.refl
                        exact cP.wk (lS1 rfl (lS1 rfl (lS1 rfl (lS1 rfl lS0)))) (jn118 M104 hI104 hJ107 hFm104)
                      · have hJ108 : Fr fS_180_j364 M104 M104 := Fr.refl
                        refine s_aload_n kx_180_367 rfl ?_
                        refine r_getU (k := 63) (f := 7) kx_180_368 kp_180_32 (tk_63 hT) kf_12_7 (fun _ => rfl) (fun v109 v109e => ?_)
                        refine s_ldc2_w kx_180_371 kp_180_274 ?_
                        refine r_lcmpR kx_180_374 (fun v110 => ?_)
                        refine s_if_ne (t := 411) kx_180_375 (by decide) (fun hc111 => ?_) (fun hc111 => ?_)
                        · exact cP.wk (lS1 rfl (lS1 rfl (lS1 rfl (lS1 rfl lS0)))) (jn118 M104 hI104 hJ108 hFm104)
                        · refine s_aload_n kx_180_378 rfl ?_
                          refine r_getU (k := 63) (f := 8) kx_180_379 kp_180_36 (tk_63 hT) kf_12_8 (fun _ => rfl) (fun v112 v112e => ?_)
                          refine s_bipush (v := 114) kx_180_382 (by decide) ?_
                          refine s_icmp_ne (t := 411) kx_180_384 (by decide) (fun hc113 => ?_) (fun hc113 => ?_)
                          · exact cP.wk (lS1 rfl (lS1 rfl (lS1 rfl (lS1 rfl lS0)))) (jn118 M104 hI104 hJ108 hFm104)
                          · refine s_aload_n kx_180_387 rfl ?_
                            refine s_lconst (v := 1) kx_180_388 (by decide) ?_
                            refine r_put (k := 63) (f := 7) kx_180_389 kp_180_32 (tk_63 hT) kf_12_7 rfl (by decide) (by decide) hI104 ru_63_7 (fun M114 hI114 u114 => ?_)
                            have hFm114 := hFm104.up u114 rfl
                            have hFj364114 := hJ108.up u114 rfl
                            refine s_aload_n kx_180_392 rfl ?_
                            refine r_getI (k := 63) (f := 13) kx_180_393 kp_180_51 (tk_63 hT) kf_12_13 (fun _ => rfl) (rg_63_13 hI114) (fun v115 v115e v115a v115b => ?_)
                            refine s_aload_n kx_180_396 rfl ?_
                            refine r_getK (k := 63) (f := 4) kx_180_397 kp_180_23 (tk_63 hT) kf_12_4 (fun _ => rfl) ((u114.2 63 4 (by omega)).trans ((u104.2 63 4 (by omega)).trans ((fl52 63 4 rfl).trans ((u48.2 63 4 (by omega)).trans ((u45.2 63 4 (by omega)).trans ((u44.2 63 4 (by omega)).trans ((u43.2 63 4 (by omega)).trans ((u42.2 63 4 (by omega)).trans ((fj41 63 4 rfl).trans ((u15.2 63 4 (by omega)).trans ((u14.2 63 4 (by omega)).trans ((u13.2 63 4 (by omega)).trans u12.1)))))))))))) ?_
                            refine s_iload kx_180_400 rfl ?_
                            refine r_add kx_180_402 ⟨by omega, by omega⟩ ?_
                            refine s_icmp_ne (t := 411) kx_180_403 (by decide) (fun hc116 => ?_) (fun hc116 => ?_)
                            · exact cP.wk (lS1 rfl (lS1 rfl (lS1 rfl (lS1 rfl lS0)))) (jn118 M114 hI114 hFj364114 hFm114)
                            · refine s_aload_n kx_180_406 rfl ?_
                              refine s_iconst (v := (-1)) kx_180_407 (by decide) ?_
                              refine r_put (k := 63) (f := 13) kx_180_408 kp_180_51 (tk_63 hT) kf_12_13 rfl (by decide) (by decide) hI114 (ru_63_13 (by omega) (by omega)) (fun M117 hI117 u117 => ?_)
                              have hFm117 := hFm114.up u117 rfl
                              have hFj364117 := hFj364114.up u117 rfl
                              exact cP.wk (lS1 rfl (lS1 rfl (lS1 rfl (lS1 rfl lS0)))) (jn118 M117 hI117 hFj364117 hFm117)
                    · replace v102p := v102p.resolve_right (by omega)
                      refine s_goto (t := 243) kx_180_228 (by decide) ?_
                      refine s_iload kx_180_243 rfl ?_
                      refine s_iload kx_180_245 rfl ?_
                      have jn146 : ∀ M147 : cM, Rng M147 → Fr fS_180_j247 M52 M147 → Fr fS_180_m M M147 → Fr fS_180_l204 M48 M147 → cP k_P xs Ln (d + 1) 180 263 [(0, rf 63), (1, (0, x1_50)), (2, (0, v18)), (3, (0, v19)), (4, (0, 6)), (5, (0, x5_51))] [] (T, M147) (qV T M fS_180_m (fun M1 => M 63 5 ≤ M1 63 4 ∧ M1 63 4 ≤ M1 63 5 ∧ (M1 63 3 = 0 ∨ M1 63 4 + 1 ≤ M1 63 5))) := by
                        intro M147 hI147 fj147 hFm147 hFl204147
                        refine s_iload kx_180_263 rfl ?_
                        refine s_bipush (v := 8) kx_180_265 (by decide) ?_
                        have jn156 : ∀ M157 : cM, Rng M157 → Fr fS_180_j267 M147 M157 → Fr fS_180_m M M157 → Fr fS_180_l204 M48 M157 → cP k_P xs Ln (d + 1) 180 293 [(0, rf 63), (1, (0, x1_50)), (2, (0, v18)), (3, (0, v19)), (4, (0, 6)), (5, (0, x5_51))] [] (T, M157) (qV T M fS_180_m (fun M1 => M 63 5 ≤ M1 63 4 ∧ M1 63 4 ≤ M1 63 5 ∧ (M1 63 3 = 0 ∨ M1 63 4 + 1 ≤ M1 63 5))) := by
                          intro M157 hI157 fj157 hFm157 hFl204157
                          refine s_iload kx_180_293 rfl ?_
                          refine s_bipush (v := 8) kx_180_295 (by decide) ?_
                          have jn162 : ∀ M163 : cM, Rng M163 → Fr fS_180_j297 M157 M163 → Fr fS_180_m M M163 → Fr fS_180_l204 M48 M163 → cP k_P xs Ln (d + 1) 180 310 [(0, rf 63), (1, (0, x1_50)), (2, (0, v18)), (3, (0, v19)), (4, (0, 6)), (5, (0, x5_51))] [] (T, M163) (qV T M fS_180_m (fun M1 => M 63 5 ≤ M1 63 4 ∧ M1 63 4 ≤ M1 63 5 ∧ (M1 63 3 = 0 ∨ M1 63 4 + 1 ≤ M1 63 5))) := by
                            intro M163 hI163 fj163 hFm163 hFl204163
                            refine s_iload kx_180_310 rfl ?_
                            refine s_iload kx_180_312 rfl ?_
                            refine s_icmp_ge (t := 342) kx_180_314 (by decide) (fun hc164 => ?_) (fun hc164 => ?_)
                            · refine r_iinc kx_180_342 rfl km_180_5 (by decide) ⟨by omega, by omega⟩ rfl ?_
                              refine r_iinc kx_180_345 rfl km_180_1 (by decide) ⟨by omega, by omega⟩ rfl ?_
                              refine s_goto (t := 204) kx_180_348 (by decide) ?_
                              exact cP.wk (lS1 rfl (lS1 rfl (lS1 rfl (lS1 rfl (lS1 rfl (lS1 rfl lS0)))))) (ih62 (x1_50 + 1) (x5_51 + 1) M163 hI163 hFm163 hFl204163 (by omega) (by omega) (by omega) (by omega) (by omega) (by omega) (by omega))
                            · refine s_iload_n kx_180_317 rfl ?_
                              refine s_if_eq (t := 342) kx_180_318 (by decide) (fun hc165 => ?_) (fun hc165 => ?_)
                              · refine r_iinc kx_180_342 rfl km_180_5 (by decide) ⟨by omega, by omega⟩ rfl ?_
                                refine r_iinc kx_180_345 rfl km_180_1 (by decide) ⟨by omega, by omega⟩ rfl ?_
                                refine s_goto (t := 204) kx_180_348 (by decide) ?_
                                exact cP.wk (lS1 rfl (lS1 rfl (lS1 rfl (lS1 rfl (lS1 rfl (lS1 rfl lS0)))))) (ih62 (x1_50 + 1) (x5_51 + 1) M163 hI163 hFm163 hFl204163 (by omega) (by omega) (by omega) (by omega) (by omega) (by omega) (by omega))
                              · refine s_aload_n kx_180_321 rfl ?_
                                refine s_bipush (v := 10) kx_180_322 (by decide) ?_
                                refine s_aload_n kx_180_324 rfl ?_
                                refine r_getU (k := 63) (f := 6) kx_180_325 kp_180_29 (tk_63 hT) kf_12_6 (fun _ => rfl) (fun v166 v166e => ?_)
                                refine r_imulR kx_180_328 (fun v167 v167a v167b => ?_)
                                refine s_aload_n kx_180_329 rfl ?_
                                refine r_getR (k := 63) (f := 0) (k2 := 64) kx_180_330 kp_180_7 (tk_63 hT) kf_12_0 (by decide) (rq_63_0 hI163) ?_
                                refine s_iload_n kx_180_333 rfl ?_
                                refine r_aldK (k := 64) kx_180_334 (tk_64 hT) ⟨by omega, by omega⟩ ((fj163 64 _ rfl).trans ((fj157 64 _ rfl).trans ((fj147 64 _ rfl).trans v101e))) ?_
                                refine r_iaddR kx_180_335 (fun v168 v168a v168b => ?_)
                                refine s_bipush (v := 48) kx_180_336 (by decide) ?_
                                refine r_isubR kx_180_338 (fun v169 v169a v169b => ?_)
                                refine r_put (k := 63) (f := 6) kx_180_339 kp_180_29 (tk_63 hT) kf_12_6 rfl (by decide) (by decide) hI163 ru_63_6 (fun M170 hI170 u170 => ?_)
                                have hFm170 := hFm163.up u170 rfl
                                have hFl204170 := hFl204163.up u170 rfl
                                refine r_iinc kx_180_342 rfl km_180_5 (by decide) ⟨by omega, by omega⟩ rfl ?_
                                refine r_iinc kx_180_345 rfl km_180_1 (by decide) ⟨by omega, by omega⟩ rfl ?_
                                refine s_goto (t := 204) kx_180_348 (by decide) ?_
                                exact cP.wk (lS1 rfl (lS1 rfl (lS1 rfl (lS1 rfl (lS1 rfl (lS1 rfl lS0)))))) (ih62 (x1_50 + 1) (x5_51 + 1) M170 hI170 hFm170 hFl204170 (by omega) (by omega) (by omega) (by omega) (by omega) (by omega) (by omega))
                          refine s_icmp_ne (t := 310) kx_180_297 (by decide) (fun hc158 => ?_) (fun hc158 => ?_)
                          · have hJ159 : Fr fS_180_j297 M157 M157 := Fr.refl
                            exact cP.wk (lS1 rfl (lS1 rfl (lS1 rfl (lS1 rfl (lS1 rfl (lS1 rfl lS0)))))) (jn162 M157 hI157 hJ159 hFm157 hFl204157)
                          · have hJ160 : Fr fS_180_j297 M157 M157 := Fr.refl
                            refine s_aload_n kx_180_300 rfl ?_
                            refine s_aload_n kx_180_301 rfl ?_
                            refine r_getR (k := 63) (f := 0) (k2 := 64) kx_180_302 kp_180_7 (tk_63 hT) kf_12_0 (by decide) (rq_63_0 hI157) ?_
                            refine s_iload_n kx_180_305 rfl ?_
                            refine r_aldK (k := 64) kx_180_306 (tk_64 hT) ⟨by omega, by omega⟩ ((fj157 64 _ rfl).trans ((fj147 64 _ rfl).trans v101e)) ?_
                            refine r_put (k := 63) (f := 8) kx_180_307 kp_180_36 (tk_63 hT) kf_12_8 rfl (by decide) (by decide) hI157 ru_63_8 (fun M161 hI161 u161 => ?_)
                            have hFm161 := hFm157.up u161 rfl
                            have hFl204161 := hFl204157.up u161 rfl
                            have hFj297161 := hJ160.up u161 rfl
                            exact cP.wk (lS1 rfl (lS1 rfl (lS1 rfl (lS1 rfl (lS1 rfl (lS1 rfl lS0)))))) (jn162 M161 hI161 hFj297161 hFm161 hFl204161)
                        refine s_icmp_ge (t := 293) kx_180_267 (by decide) (fun hc148 => ?_) (fun hc148 => ?_)
                        · have hJ149 : Fr fS_180_j267 M147 M147 := Fr.refl
                          exact cP.wk (lS1 rfl (lS1 rfl (lS1 rfl (lS1 rfl (lS1 rfl (lS1 rfl lS0)))))) (jn156 M147 hI147 hJ149 hFm147 hFl204147)
                        · have hJ150 : Fr fS_180_j267 M147 M147 := Fr.refl
                          refine s_iload_n kx_180_270 rfl ?_
                          refine s_if_eq (t := 293) kx_180_271 (by decide) (fun hc151 => absurd hc151 (by omega)) (fun hc151 => ?_)
                          refine s_aload_n kx_180_274 rfl ?_
                          refine s_aload_n kx_180_275 rfl ?_
                          refine r_getU (k := 63) (f := 7) kx_180_276 kp_180_32 (tk_63 hT) kf_12_7 (fun _ => rfl) (fun v152 v152e => ?_)
                          refine s_bipush (v := 8) kx_180_279 (by decide) ?_
                          refine r_lshlR kx_180_281 (fun v153 v153a v153b => ?_)
                          refine s_aload_n kx_180_282 rfl ?_
                          refine r_getR (k := 63) (f := 0) (k2 := 64) kx_180_283 kp_180_7 (tk_63 hT) kf_12_0 (by decide) (rq_63_0 hI147) ?_
                          refine s_iload_n kx_180_286 rfl ?_
                          refine r_aldK (k := 64) kx_180_287 (tk_64 hT) ⟨by omega, by omega⟩ ((fj147 64 _ rfl).trans v101e) ?_
                          refine s_i2l kx_180_288 ?_
                          refine r_lorR kx_180_289 (fun v154 v154a v154b => ?_)
                          refine r_put (k := 63) (f := 7) kx_180_290 kp_180_32 (tk_63 hT) kf_12_7 rfl (by decide) (by decide) hI147 ru_63_7 (fun M155 hI155 u155 => ?_)
                          have hFm155 := hFm147.up u155 rfl
                          have hFl204155 := hFl204147.up u155 rfl
                          have hFj267155 := hJ150.up u155 rfl
                          exact cP.wk (lS1 rfl (lS1 rfl (lS1 rfl (lS1 rfl (lS1 rfl (lS1 rfl lS0)))))) (jn156 M155 hI155 hFj267155 hFm155 hFl204155)
                      refine s_icmp_ne (t := 263) kx_180_247 (by decide) (fun hc140 => ?_) (fun hc140 => ?_)
                      · have hJ141 : Fr fS_180_j247 M52 M52 := Fr.refl
                        exact cP.wk (lS1 rfl (lS1 rfl (lS1 rfl (lS1 rfl (lS1 rfl (lS1 rfl lS0)))))) (jn146 M52 hI52 hJ141 hFm52 fl52)
                      · have hJ142 : Fr fS_180_j247 M52 M52 := Fr.refl
                        refine s_aload_n kx_180_250 rfl ?_
                        refine r_getI (k := 63) (f := 13) kx_180_251 kp_180_51 (tk_63 hT) kf_12_13 (fun _ => rfl) (rg_63_13 hI52) (fun v143 v143e v143a v143b => ?_)
                        refine s_iconst (v := (-1)) kx_180_254 (by decide) ?_
                        refine s_icmp_ne (t := 263) kx_180_255 (by decide) (fun hc144 => ?_) (fun hc144 => ?_)
                        · exact cP.wk (lS1 rfl (lS1 rfl (lS1 rfl (lS1 rfl (lS1 rfl (lS1 rfl lS0)))))) (jn146 M52 hI52 hJ142 hFm52 fl52)
                        · refine s_aload_n kx_180_258 rfl ?_
                          refine s_iload_n kx_180_259 rfl ?_
                          refine r_put (k := 63) (f := 13) kx_180_260 kp_180_51 (tk_63 hT) kf_12_13 rfl (by decide) (by decide) hI52 (ru_63_13 (by omega) (by omega)) (fun M145 hI145 u145 => ?_)
                          have hFm145 := hFm52.up u145 rfl
                          have hFl204145 := fl52.up u145 rfl
                          have hFj247145 := hJ142.up u145 rfl
                          exact cP.wk (lS1 rfl (lS1 rfl (lS1 rfl (lS1 rfl (lS1 rfl (lS1 rfl lS0)))))) (jn146 M145 hI145 hFj247145 hFm145 hFl204145)
              exact cP.wk (lS1 rfl (lS1 rfl (lS1 rfl (lS1 rfl (lS1 rfl (lS1 rfl lS0)))))) (key53 _ x1_2 0 M48 hI48 hFm48 Fr.refl (by omega) (by omega) (by omega) (by omega) (by omega) (by omega) (Nat.lt_succ_self _))
            · refine s_iload_n kx_180_161 rfl ?_
              refine s_if_ne (t := 176) kx_180_162 (by decide) (fun hc171 => ?_) (fun hc171 => ?_)
              · refine s_aload_n kx_180_176 rfl ?_
                refine s_iload_n kx_180_177 rfl ?_
                refine s_if_eq (t := 185) kx_180_178 (by decide) (fun hc172 => ?_) (fun hc172 => absurd hc172 (by omega))
                refine s_iconst (v := 2) kx_180_185 (by decide) ?_
                refine r_put (k := 63) (f := 3) kx_180_186 kp_180_20 (tk_63 hT) kf_12_3 rfl (by decide) (by decide) hI45 (ru_63_3 (by omega) (by omega)) (fun M173 hI173 u173 => ?_)
                have hFm173 := hFm45.up u173 rfl
                refine s_iload_n kx_180_189 rfl ?_
                refine s_if_eq (t := 198) kx_180_190 (by decide) (fun hc174 => ?_) (fun hc174 => absurd hc174 (by omega))
                refine s_iconst (v := 4) kx_180_198 (by decide) ?_
                refine s_istore kx_180_199 km_180_4 rfl ?_
                refine s_iconst (v := 0) kx_180_201 (by decide) ?_
                refine s_istore kx_180_202 km_180_5 rfl ?_
                have key178 : ∀ n179 : Nat, ∀ (x1_175 x5_176 : Int), ∀ M177 : cM, Rng M177 → Fr fS_180_m M M177 → Fr fS_180_l204 M173 M177 → (0 ≤ x1_175) → (x1_175 ≤ 1600) → (0 ≤ x5_176) → (x5_176 ≤ 1600) → (x1_2 ≤ x1_175) → (x5_176 ≤ x1_175) → (2147483647 - x5_176).toNat < n179 → cP k_P xs Ln (d + 1) 180 204 [(0, rf 63), (1, (0, x1_175)), (2, (0, v18)), (3, (0, v19)), (4, (0, 4)), (5, (0, x5_176))] [] (T, M177) (qV T M fS_180_m (fun M1 => M 63 5 ≤ M1 63 4 ∧ M1 63 4 ≤ M1 63 5 ∧ (M1 63 3 = 0 ∨ M1 63 4 + 1 ≤ M1 63 5))) := by
                  intro n179
                  induction n179 with
                  | zero => intro x1_175 x5_176 M177 hI177 hFm177 fl177 i180 i181 i182 i183 i184 i185 hm186; exact absurd hm186 (Nat.not_lt_zero _)
                  | succ n179 ih187 =>
                    intro x1_175 x5_176 M177 hI177 hFm177 fl177 i180 i181 i182 i183 i184 i185 hm186
                    refine s_iload_n kx_180_204 rfl ?_
                    refine s_aload_n kx_180_205 rfl ?_
                    refine r_getK (k := 63) (f := 2) kx_180_206 kp_180_17 (tk_63 hT) kf_12_2 (fun _ => rfl) ((fl177 63 2 rfl).trans ((u173.2 63 2 (by omega)).trans ((u45.2 63 2 (by omega)).trans ((u44.2 63 2 (by omega)).trans ((u43.2 63 2 (by omega)).trans ((u42.2 63 2 (by omega)).trans ((fj41 63 2 rfl).trans ((u15.2 63 2 (by omega)).trans ((u14.2 63 2 (by omega)).trans ((u13.2 63 2 (by omega)).trans ((u12.2 63 2 (by omega)).trans v10e))))))))))) ?_
                    refine s_icmp_ge (t := 351) kx_180_209 (by decide) (fun hc188 => ?_) (fun hc188 => ?_)
                    · refine s_aload_n kx_180_351 rfl ?_
                      refine s_iload_n kx_180_352 rfl ?_
                      refine r_put (k := 63) (f := 5) kx_180_353 kp_180_26 (tk_63 hT) kf_12_5 rfl (by decide) (by decide) hI177 (ru_63_5 (by omega) (by omega)) (fun M189 hI189 u189 => ?_)
                      have hFm189 := hFm177.up u189 rfl
                      refine s_iload_n kx_180_356 rfl ?_
                      refine s_if_eq (t := 411) kx_180_357 (by decide) (fun hc190 => ?_) (fun hc190 => absurd hc190 (by omega))
                      refine s_iload_n kx_180_411 rfl ?_
                      refine s_if_eq (t := 452) kx_180_412 (by decide) (fun hc191 => ?_) (fun hc191 => absurd hc191 (by omega))
                      have hk192 : M189 63 3 = 2 := ((u189.2 63 3 (by omega)).trans ((fl177 63 3 rfl).trans u173.1))
                      have hk193 : M189 63 4 = x1_2 := ((u189.2 63 4 (by omega)).trans ((fl177 63 4 rfl).trans ((u173.2 63 4 (by omega)).trans ((u45.2 63 4 (by omega)).trans ((u44.2 63 4 (by omega)).trans ((u43.2 63 4 (by omega)).trans ((u42.2 63 4 (by omega)).trans ((fj41 63 4 rfl).trans ((u15.2 63 4 (by omega)).trans ((u14.2 63 4 (by omega)).trans ((u13.2 63 4 (by omega)).trans u12.1)))))))))))
                      have hk194 : M189 63 5 = x1_175 := u189.1
                      exact s_vret kx_180_452 kq_180 ⟨_, rfl, rfl, hI189, hFm189, (by omega)⟩
                    · refine s_iload_n kx_180_212 rfl ?_
                      refine s_if_eq (t := 231) kx_180_213 (by decide) (fun hc195 => ?_) (fun hc195 => absurd hc195 (by omega))
                      refine s_aload_n kx_180_231 rfl ?_
                      refine r_getR (k := 63) (f := 0) (k2 := 64) kx_180_232 kp_180_7 (tk_63 hT) kf_12_0 (by decide) (rq_63_0 hI177) ?_
                      refine s_iload_n kx_180_235 rfl ?_
                      refine r_ald (k := 64) kx_180_236 (tk_64 hT) ⟨by omega, by omega⟩ (rg_64 hI177) (fun v196 v196e v196a v196b => ?_)
                      refine s_callS2 (s1 := 1) (s2 := 0) (as := [(0, v196)]) (rest := []) kx_180_237 kp_180_271 rfl kcl_178 rfl rfl (by decide) (m_178 (d := d) (c := v196) hT hI177) (kF (fun v197 v197p => ?_))
                      refine s_if_eq (t := 351) kx_180_240 (by decide) (fun hc198 => ?_) (fun hc198 => ?_)
                      · replace v197p := v197p.resolve_left (by omega)
                        have hge : x1_2 + 1 ≤ x1_175 := if e : x1_175 = x1_2 then absurd (v196e) (by rw [e, ((fl177 64 _ rfl).trans ((u173.2 64 _ (by omega)).trans ((u45.2 64 _ (by omega)).trans ((u44.2 64 _ (by omega)).trans ((u43.2 64 _ (by omega)).trans ((u42.2 64 _ (by omega)).trans ((fj41 64 _ rfl).trans v17e)))))))]; omega) else (by omega)
                        refine s_aload_n kx_180_351 rfl ?_
                        refine s_iload_n kx_180_352 rfl ?_
                        refine r_put (k := 63) (f := 5) kx_180_353 kp_180_26 (tk_63 hT) kf_12_5 rfl (by decide) (by decide) hI177 (ru_63_5 (by omega) (by omega)) (fun M199 hI199 u199 => ?_)
                        have hFm199 := hFm177.up u199 rfl
                        refine s_iload_n kx_180_356 rfl ?_
                        refine s_if_eq (t := 411) kx_180_357 (by decide) (fun hc200 => ?_) (fun hc200 => absurd hc200 (by omega))
                        refine s_iload_n kx_180_411 rfl ?_
                        refine s_if_eq (t := 452) kx_180_412 (by decide) (fun hc201 => ?_) (fun hc201 => absurd hc201 (by omega))
                        have hk202 : M199 63 3 = 2 := ((u199.2 63 3 (by omega)).trans ((fl177 63 3 rfl).trans u173.1))
                        have hk203 : M199 63 4 = x1_2 := ((u199.2 63 4 (by omega)).trans ((fl177 63 4 rfl).trans ((u173.2 63 4 (by omega)).trans ((u45.2 63 4 (by omega)).trans ((u44.2 63 4 (by omega)).trans ((u43.2 63 4 (by omega)).trans ((u42.2 63 4 (by omega)).trans ((fj41 63 4 rfl).trans ((u15.2 63 4 (by omega)).trans ((u14.2 63 4 (by omega)).trans ((u13.2 63 4 (by omega)).trans u12.1)))))))))))
                        have hk204 : M199 63 5 = x1_175 := u199.1
                        exact s_vret kx_180_452 kq_180 ⟨_, rfl, rfl, hI199, hFm199, (by omega)⟩
                      · replace v197p := v197p.resolve_right (by omega)
                        refine s_iload kx_180_243 rfl ?_
                        refine s_iload kx_180_245 rfl ?_
                        have jn211 : ∀ M212 : cM, Rng M212 → Fr fS_180_j247 M177 M212 → Fr fS_180_m M M212 → Fr fS_180_l204 M173 M212 → cP k_P xs Ln (d + 1) 180 263 [(0, rf 63), (1, (0, x1_175)), (2, (0, v18)), (3, (0, v19)), (4, (0, 4)), (5, (0, x5_176))] [] (T, M212) (qV T M fS_180_m (fun M1 => M 63 5 ≤ M1 63 4 ∧ M1 63 4 ≤ M1 63 5 ∧ (M1 63 3 = 0 ∨ M1 63 4 + 1 ≤ M1 63 5))) := by
                          intro M212 hI212 fj212 hFm212 hFl204212
                          refine s_iload kx_180_263 rfl ?_
                          refine s_bipush (v := 8) kx_180_265 (by decide) ?_
                          have jn217 : cP k_P xs Ln (d + 1) 180 293 [(0, rf 63), (1, (0, x1_175)), (2, (0, v18)), (3, (0, v19)), (4, (0, 4)), (5, (0, x5_176))] [] (T, M212) (qV T M fS_180_m (fun M1 => M 63 5 ≤ M1 63 4 ∧ M1 63 4 ≤ M1 63 5 ∧ (M1 63 3 = 0 ∨ M1 63 4 + 1 ≤ M1 63 5))) := by
                            refine s_iload kx_180_293 rfl ?_
                            refine s_bipush (v := 8) kx_180_295 (by decide) ?_
                            have jn222 : ∀ M223 : cM, Rng M223 → Fr fS_180_j297 M212 M223 → Fr fS_180_m M M223 → Fr fS_180_l204 M173 M223 → cP k_P xs Ln (d + 1) 180 310 [(0, rf 63), (1, (0, x1_175)), (2, (0, v18)), (3, (0, v19)), (4, (0, 4)), (5, (0, x5_176))] [] (T, M223) (qV T M fS_180_m (fun M1 => M 63 5 ≤ M1 63 4 ∧ M1 63 4 ≤ M1 63 5 ∧ (M1 63 3 = 0 ∨ M1 63 4 + 1 ≤ M1 63 5))) := by
                              intro M223 hI223 fj223 hFm223 hFl204223
                              refine s_iload kx_180_310 rfl ?_
                              refine s_iload kx_180_312 rfl ?_
                              refine s_icmp_ge (t := 342) kx_180_314 (by decide) (fun hc224 => ?_) (fun hc224 => ?_)
                              · refine r_iinc kx_180_342 rfl km_180_5 (by decide) ⟨by omega, by omega⟩ rfl ?_
                                refine r_iinc kx_180_345 rfl km_180_1 (by decide) ⟨by omega, by omega⟩ rfl ?_
                                refine s_goto (t := 204) kx_180_348 (by decide) ?_
                                exact cP.wk (lS1 rfl (lS1 rfl (lS1 rfl (lS1 rfl (lS1 rfl (lS1 rfl lS0)))))) (ih187 (x1_175 + 1) (x5_176 + 1) M223 hI223 hFm223 hFl204223 (by omega) (by omega) (by omega) (by omega) (by omega) (by omega) (by omega))
                              · refine s_iload_n kx_180_317 rfl ?_
                                refine s_if_eq (t := 342) kx_180_318 (by decide) (fun hc225 => absurd hc225 (by omega)) (fun hc225 => ?_)
                                refine s_aload_n kx_180_321 rfl ?_
                                refine s_bipush (v := 10) kx_180_322 (by decide) ?_
                                refine s_aload_n kx_180_324 rfl ?_
                                refine r_getU (k := 63) (f := 6) kx_180_325 kp_180_29 (tk_63 hT) kf_12_6 (fun _ => rfl) (fun v226 v226e => ?_)
                                refine r_imulR kx_180_328 (fun v227 v227a v227b => ?_)
                                refine s_aload_n kx_180_329 rfl ?_
                                refine r_getR (k := 63) (f := 0) (k2 := 64) kx_180_330 kp_180_7 (tk_63 hT) kf_12_0 (by decide) (rq_63_0 hI223) ?_
                                refine s_iload_n kx_180_333 rfl ?_
                                refine r_aldK (k := 64) kx_180_334 (tk_64 hT) ⟨by omega, by omega⟩ ((fj223 64 _ rfl).trans ((fj212 64 _ rfl).trans v196e)) ?_
                                refine r_iaddR kx_180_335 (fun v228 v228a v228b => ?_)
                                refine s_bipush (v := 48) kx_180_336 (by decide) ?_
                                refine r_isubR kx_180_338 (fun v229 v229a v229b => ?_)
                                refine r_put (k := 63) (f := 6) kx_180_339 kp_180_29 (tk_63 hT) kf_12_6 rfl (by decide) (by decide) hI223 ru_63_6 (fun M230 hI230 u230 => ?_)
                                have hFm230 := hFm223.up u230 rfl
                                have hFl204230 := hFl204223.up u230 rfl
                                refine r_iinc kx_180_342 rfl km_180_5 (by decide) ⟨by omega, by omega⟩ rfl ?_
                                refine r_iinc kx_180_345 rfl km_180_1 (by decide) ⟨by omega, by omega⟩ rfl ?_
                                refine s_goto (t := 204) kx_180_348 (by decide) ?_
                                exact cP.wk (lS1 rfl (lS1 rfl (lS1 rfl (lS1 rfl (lS1 rfl (lS1 rfl lS0)))))) (ih187 (x1_175 + 1) (x5_176 + 1) M230 hI230 hFm230 hFl204230 (by omega) (by omega) (by omega) (by omega) (by omega) (by omega) (by omega))
                            refine s_icmp_ne (t := 310) kx_180_297 (by decide) (fun hc218 => ?_) (fun hc218 => ?_)
                            · have hJ219 : Fr fS_180_j297 M212 M212 := Fr.refl
                              exact cP.wk (lS1 rfl (lS1 rfl (lS1 rfl (lS1 rfl (lS1 rfl (lS1 rfl lS0)))))) (jn222 M212 hI212 hJ219 hFm212 hFl204212)
                            · have hJ220 : Fr fS_180_j297 M212 M212 := Fr.refl
                              refine s_aload_n kx_180_300 rfl ?_
                              refine s_aload_n kx_180_301 rfl ?_
                              refine r_getR (k := 63) (f := 0) (k2 := 64) kx_180_302 kp_180_7 (tk_63 hT) kf_12_0 (by decide) (rq_63_0 hI212) ?_
                              refine s_iload_n kx_180_305 rfl ?_
                              refine r_aldK (k := 64) kx_180_306 (tk_64 hT) ⟨by omega, by omega⟩ ((fj212 64 _ rfl).trans v196e) ?_
                              refine r_put (k := 63) (f := 8) kx_180_307 kp_180_36 (tk_63 hT) kf_12_8 rfl (by decide) (by decide) hI212 ru_63_8 (fun M221 hI221 u221 => ?_)
                              have hFm221 := hFm212.up u221 rfl
                              have hFl204221 := hFl204212.up u221 rfl
                              have hFj297221 := hJ220.up u221 rfl
                              exact cP.wk (lS1 rfl (lS1 rfl (lS1 rfl (lS1 rfl (lS1 rfl (lS1 rfl lS0)))))) (jn222 M221 hI221 hFj297221 hFm221 hFl204221)
                          refine s_icmp_ge (t := 293) kx_180_267 (by decide) (fun hc213 => ?_) (fun hc213 => ?_)
                          · have hJ214 : Fr fS_180_j267 M212 M212 := Fr.refl
                            exact cP.wk (lS1 rfl (lS1 rfl (lS1 rfl (lS1 rfl (lS1 rfl (lS1 rfl lS0)))))) (jn217)
                          · have hJ215 : Fr fS_180_j267 M212 M212 := Fr.refl
                            refine s_iload_n kx_180_270 rfl ?_
                            refine s_if_eq (t := 293) kx_180_271 (by decide) (fun hc216 => ?_) (fun hc216 => absurd hc216 (by omega))
                            exact cP.wk (lS1 rfl (lS1 rfl (lS1 rfl (lS1 rfl (lS1 rfl (lS1 rfl lS0)))))) (jn217)
                        refine s_icmp_ne (t := 263) kx_180_247 (by decide) (fun hc205 => ?_) (fun hc205 => ?_)
                        · have hJ206 : Fr fS_180_j247 M177 M177 := Fr.refl
                          exact cP.wk (lS1 rfl (lS1 rfl (lS1 rfl (lS1 rfl (lS1 rfl (lS1 rfl lS0)))))) (jn211 M177 hI177 hJ206 hFm177 fl177)
                        · have hJ207 : Fr fS_180_j247 M177 M177 := Fr.refl
                          refine s_aload_n kx_180_250 rfl ?_
                          refine r_getI (k := 63) (f := 13) kx_180_251 kp_180_51 (tk_63 hT) kf_12_13 (fun _ => rfl) (rg_63_13 hI177) (fun v208 v208e v208a v208b => ?_)
                          refine s_iconst (v := (-1)) kx_180_254 (by decide) ?_
                          refine s_icmp_ne (t := 263) kx_180_255 (by decide) (fun hc209 => ?_) (fun hc209 => ?_)
                          · exact cP.wk (lS1 rfl (lS1 rfl (lS1 rfl (lS1 rfl (lS1 rfl (lS1 rfl lS0)))))) (jn211 M177 hI177 hJ207 hFm177 fl177)
                          · refine s_aload_n kx_180_258 rfl ?_
                            refine s_iload_n kx_180_259 rfl ?_
                            refine r_put (k := 63) (f := 13) kx_180_260 kp_180_51 (tk_63 hT) kf_12_13 rfl (by decide) (by decide) hI177 (ru_63_13 (by omega) (by omega)) (fun M210 hI210 u210 => ?_)
                            have hFm210 := hFm177.up u210 rfl
                            have hFl204210 := fl177.up u210 rfl
                            have hFj247210 := hJ207.up u210 rfl
                            exact cP.wk (lS1 rfl (lS1 rfl (lS1 rfl (lS1 rfl (lS1 rfl (lS1 rfl lS0)))))) (jn211 M210 hI210 hFj247210 hFm210 hFl204210)
                exact cP.wk (lS1 rfl (lS1 rfl (lS1 rfl (lS1 rfl (lS1 rfl (lS1 rfl lS0)))))) (key178 _ x1_2 0 M173 hI173 hFm173 Fr.refl (by omega) (by omega) (by omega) (by omega) (by omega) (by omega) (Nat.lt_succ_self _))
              · refine s_aload_n kx_180_165 rfl ?_
                refine s_aload_n kx_180_166 rfl ?_
                refine r_getR (k := 63) (f := 0) (k2 := 64) kx_180_167 kp_180_7 (tk_63 hT) kf_12_0 (by decide) (rq_63_0 hI45) ?_
                refine s_iload_n kx_180_170 rfl ?_
                refine r_aldK (k := 64) kx_180_171 (tk_64 hT) ⟨by omega, by omega⟩ ((u45.2 64 _ (by omega)).trans ((u44.2 64 _ (by omega)).trans ((u43.2 64 _ (by omega)).trans ((u42.2 64 _ (by omega)).trans ((fj41 64 _ rfl).trans v17e))))) ?_
                refine r_put (k := 63) (f := 6) kx_180_172 kp_180_29 (tk_63 hT) kf_12_6 rfl (by decide) (by decide) hI45 ru_63_6 (fun M231 hI231 u231 => ?_)
                have hFm231 := hFm45.up u231 rfl
                have hk232 : M231 63 3 = 3 := ((u231.2 63 3 (by omega)).trans ((u45.2 63 3 (by omega)).trans u44.1))
                have hk233 : M231 63 4 = x1_2 := ((u231.2 63 4 (by omega)).trans ((u45.2 63 4 (by omega)).trans ((u44.2 63 4 (by omega)).trans ((u43.2 63 4 (by omega)).trans ((u42.2 63 4 (by omega)).trans ((fj41 63 4 rfl).trans ((u15.2 63 4 (by omega)).trans ((u14.2 63 4 (by omega)).trans ((u13.2 63 4 (by omega)).trans u12.1)))))))))
                have hk234 : M231 63 5 = (x1_2 + 1) := ((u231.2 63 5 (by omega)).trans u45.1)
                exact s_vret kx_180_175 kq_180 ⟨_, rfl, rfl, hI231, hFm231, (by omega)⟩
          refine s_if_ne (t := 98) kx_180_91 (by decide) (fun hc20 => ?_) (fun hc20 => ?_)
          · have hJ21 : Fr fS_180_j91 M15 M15 := Fr.refl
            replace v18p := v18p.resolve_right (by omega)
            refine s_iload_n kx_180_98 rfl ?_
            refine s_if_le (t := 135) kx_180_99 (by decide) (fun hc22 => ?_) (fun hc22 => ?_)
            · exact cP.wk (lS1 rfl (lS1 rfl (lS1 rfl (lS1 rfl lS0)))) (jn40 M15 hI15 hJ21 hFm15)
            · refine s_aload_n kx_180_102 rfl ?_
              refine r_getR (k := 63) (f := 0) (k2 := 64) kx_180_103 kp_180_7 (tk_63 hT) kf_12_0 (by decide) (rq_63_0 hI15) ?_
              refine s_iload_n kx_180_106 rfl ?_
              refine s_iconst (v := 1) kx_180_107 (by decide) ?_
              refine r_sub kx_180_108 ⟨by omega, by omega⟩ ?_
              refine r_ald (k := 64) kx_180_109 (tk_64 hT) ⟨by omega, by omega⟩ (rg_64 hI15) (fun v23 v23e v23a v23b => ?_)
              refine s_callS2 (s1 := 1) (s2 := 0) (as := [(0, v23)]) (rest := []) kx_180_110 kp_180_267 rfl kcl_177 rfl rfl (by decide) (m_177 (d := d) (c := v23) hT hI15) (kF (fun v24 v24p => ?_))
              refine s_if_ne (t := 130) kx_180_113 (by decide) (fun hc25 => ?_) (fun hc25 => ?_)
              · replace v24p := v24p.resolve_right (by omega)
                refine s_aload_n kx_180_130 rfl ?_
                refine s_iload_n kx_180_131 rfl ?_
                refine r_put (k := 63) (f := 13) kx_180_132 kp_180_51 (tk_63 hT) kf_12_13 rfl (by decide) (by decide) hI15 (ru_63_13 (by omega) (by omega)) (fun M26 hI26 u26 => ?_)
                have hFm26 := hFm15.up u26 rfl
                have hFj9126 := hJ21.up u26 rfl
                exact cP.wk (lS1 rfl (lS1 rfl (lS1 rfl (lS1 rfl lS0)))) (jn40 M26 hI26 hFj9126 hFm26)
              · replace v24p := v24p.resolve_left (by omega)
                refine s_aload_n kx_180_116 rfl ?_
                refine r_getR (k := 63) (f := 0) (k2 := 64) kx_180_117 kp_180_7 (tk_63 hT) kf_12_0 (by decide) (rq_63_0 hI15) ?_
                refine s_iload_n kx_180_120 rfl ?_
                refine s_iconst (v := 1) kx_180_121 (by decide) ?_
                refine r_sub kx_180_122 ⟨by omega, by omega⟩ ?_
                refine r_aldK (k := 64) kx_180_123 (tk_64 hT) ⟨by omega, by omega⟩ v23e ?_
                refine s_callS2 (s1 := 1) (s2 := 0) (as := [(0, v23)]) (rest := []) kx_180_124 kp_180_271 rfl kcl_178 rfl rfl (by decide) (m_178 (d := d) (c := v23) hT hI15) (kF (fun v27 v27p => ?_))
                refine s_if_eq (t := 135) kx_180_127 (by decide) (fun hc28 => ?_) (fun hc28 => ?_)
                · replace v27p := v27p.resolve_left (by omega)
                  exact cP.wk (lS1 rfl (lS1 rfl (lS1 rfl (lS1 rfl lS0)))) (jn40 M15 hI15 hJ21 hFm15)
                · replace v27p := v27p.resolve_right (by omega)
                  refine s_aload_n kx_180_130 rfl ?_
                  refine s_iload_n kx_180_131 rfl ?_
                  refine r_put (k := 63) (f := 13) kx_180_132 kp_180_51 (tk_63 hT) kf_12_13 rfl (by decide) (by decide) hI15 (ru_63_13 (by omega) (by omega)) (fun M29 hI29 u29 => ?_)
                  have hFm29 := hFm15.up u29 rfl
                  have hFj9129 := hJ21.up u29 rfl
                  exact cP.wk (lS1 rfl (lS1 rfl (lS1 rfl (lS1 rfl lS0)))) (jn40 M29 hI29 hFj9129 hFm29)
          · have hJ30 : Fr fS_180_j91 M15 M15 := Fr.refl
            replace v18p := v18p.resolve_left (by omega)
            refine s_iload_n kx_180_94 rfl ?_
            refine s_if_eq (t := 135) kx_180_95 (by decide) (fun hc31 => ?_) (fun hc31 => ?_)
            · replace v19p := v19p.resolve_left (by omega)
              exact cP.wk (lS1 rfl (lS1 rfl (lS1 rfl (lS1 rfl lS0)))) (jn40 M15 hI15 hJ30 hFm15)
            · replace v19p := v19p.resolve_right (by omega)
              refine s_iload_n kx_180_98 rfl ?_
              refine s_if_le (t := 135) kx_180_99 (by decide) (fun hc32 => ?_) (fun hc32 => ?_)
              · exact cP.wk (lS1 rfl (lS1 rfl (lS1 rfl (lS1 rfl lS0)))) (jn40 M15 hI15 hJ30 hFm15)
              · refine s_aload_n kx_180_102 rfl ?_
                refine r_getR (k := 63) (f := 0) (k2 := 64) kx_180_103 kp_180_7 (tk_63 hT) kf_12_0 (by decide) (rq_63_0 hI15) ?_
                refine s_iload_n kx_180_106 rfl ?_
                refine s_iconst (v := 1) kx_180_107 (by decide) ?_
                refine r_sub kx_180_108 ⟨by omega, by omega⟩ ?_
                refine r_ald (k := 64) kx_180_109 (tk_64 hT) ⟨by omega, by omega⟩ (rg_64 hI15) (fun v33 v33e v33a v33b => ?_)
                refine s_callS2 (s1 := 1) (s2 := 0) (as := [(0, v33)]) (rest := []) kx_180_110 kp_180_267 rfl kcl_177 rfl rfl (by decide) (m_177 (d := d) (c := v33) hT hI15) (kF (fun v34 v34p => ?_))
                refine s_if_ne (t := 130) kx_180_113 (by decide) (fun hc35 => ?_) (fun hc35 => ?_)
                · replace v34p := v34p.resolve_right (by omega)
                  refine s_aload_n kx_180_130 rfl ?_
                  refine s_iload_n kx_180_131 rfl ?_
                  refine r_put (k := 63) (f := 13) kx_180_132 kp_180_51 (tk_63 hT) kf_12_13 rfl (by decide) (by decide) hI15 (ru_63_13 (by omega) (by omega)) (fun M36 hI36 u36 => ?_)
                  have hFm36 := hFm15.up u36 rfl
                  have hFj9136 := hJ30.up u36 rfl
                  exact cP.wk (lS1 rfl (lS1 rfl (lS1 rfl (lS1 rfl lS0)))) (jn40 M36 hI36 hFj9136 hFm36)
                · replace v34p := v34p.resolve_left (by omega)
                  refine s_aload_n kx_180_116 rfl ?_
                  refine r_getR (k := 63) (f := 0) (k2 := 64) kx_180_117 kp_180_7 (tk_63 hT) kf_12_0 (by decide) (rq_63_0 hI15) ?_
                  refine s_iload_n kx_180_120 rfl ?_
                  refine s_iconst (v := 1) kx_180_121 (by decide) ?_
                  refine r_sub kx_180_122 ⟨by omega, by omega⟩ ?_
                  refine r_aldK (k := 64) kx_180_123 (tk_64 hT) ⟨by omega, by omega⟩ v33e ?_
                  refine s_callS2 (s1 := 1) (s2 := 0) (as := [(0, v33)]) (rest := []) kx_180_124 kp_180_271 rfl kcl_178 rfl rfl (by decide) (m_178 (d := d) (c := v33) hT hI15) (kF (fun v37 v37p => ?_))
                  refine s_if_eq (t := 135) kx_180_127 (by decide) (fun hc38 => ?_) (fun hc38 => ?_)
                  · replace v37p := v37p.resolve_left (by omega)
                    exact cP.wk (lS1 rfl (lS1 rfl (lS1 rfl (lS1 rfl lS0)))) (jn40 M15 hI15 hJ30 hFm15)
                  · replace v37p := v37p.resolve_right (by omega)
                    refine s_aload_n kx_180_130 rfl ?_
                    refine s_iload_n kx_180_131 rfl ?_
                    refine r_put (k := 63) (f := 13) kx_180_132 kp_180_51 (tk_63 hT) kf_12_13 rfl (by decide) (by decide) hI15 (ru_63_13 (by omega) (by omega)) (fun M39 hI39 u39 => ?_)
                    have hFm39 := hFm15.up u39 rfl
                    have hFj9139 := hJ30.up u39 rfl
                    exact cP.wk (lS1 rfl (lS1 rfl (lS1 rfl (lS1 rfl lS0)))) (jn40 M39 hI39 hFj9139 hFm39)
        · have hk235 : M15 63 3 = 0 := ((u15.2 63 3 (by omega)).trans u14.1)
          have hk236 : M15 63 4 = x1_2 := ((u15.2 63 4 (by omega)).trans ((u14.2 63 4 (by omega)).trans ((u13.2 63 4 (by omega)).trans u12.1)))
          have hk237 : M15 63 5 = x1_2 := ((u15.2 63 5 (by omega)).trans ((u14.2 63 5 (by omega)).trans u13.1))
          exact s_vret kx_180_69 kq_180 ⟨_, rfl, rfl, hI15, hFm15, (by omega)⟩
      · refine s_aload_n kx_180_13 rfl ?_
        refine r_getR (k := 63) (f := 0) (k2 := 64) kx_180_14 kp_180_7 (tk_63 hT) kf_12_0 (by decide) (rq_63_0 hI) ?_
        refine s_iload_n kx_180_17 rfl ?_
        refine r_ald (k := 64) kx_180_18 (tk_64 hT) ⟨by omega, by omega⟩ (rg_64 hI) (fun v238 v238e v238a v238b => ?_)
        refine s_bipush (v := 32) kx_180_19 (by decide) ?_
        refine s_icmp_eq (t := 35) kx_180_21 (by decide) (fun hc239 => ?_) (fun hc239 => ?_)
        · refine r_iinc kx_180_35 rfl km_180_1 (by decide) ⟨by omega, by omega⟩ rfl ?_
          refine s_goto (t := 5) kx_180_38 (by decide) ?_
          exact cP.wk (lS1 rfl (lS1 rfl lS0)) (ih9 (x1_2 + 1) (by omega) (by omega) (by omega) (by omega))
        · refine s_aload_n kx_180_24 rfl ?_
          refine r_getR (k := 63) (f := 0) (k2 := 64) kx_180_25 kp_180_7 (tk_63 hT) kf_12_0 (by decide) (rq_63_0 hI) ?_
          refine s_iload_n kx_180_28 rfl ?_
          refine r_aldK (k := 64) kx_180_29 (tk_64 hT) ⟨by omega, by omega⟩ v238e ?_
          refine s_bipush (v := 10) kx_180_30 (by decide) ?_
          refine s_icmp_ne (t := 41) kx_180_32 (by decide) (fun hc240 => ?_) (fun hc240 => ?_)
          · refine s_aload_n kx_180_41 rfl ?_
            refine s_iload_n kx_180_42 rfl ?_
            refine r_put (k := 63) (f := 4) kx_180_43 kp_180_23 (tk_63 hT) kf_12_4 rfl (by decide) (by decide) hI (ru_63_4 (by omega) (by omega)) (fun M241 hI241 u241 => ?_)
            have hFm241 := hFm.up u241 rfl
            refine s_aload_n kx_180_46 rfl ?_
            refine s_iload_n kx_180_47 rfl ?_
            refine r_put (k := 63) (f := 5) kx_180_48 kp_180_26 (tk_63 hT) kf_12_5 rfl (by decide) (by decide) hI241 (ru_63_5 (by omega) (by omega)) (fun M242 hI242 u242 => ?_)
            have hFm242 := hFm241.up u242 rfl
            refine s_aload_n kx_180_51 rfl ?_
            refine s_iconst (v := 0) kx_180_52 (by decide) ?_
            refine r_put (k := 63) (f := 3) kx_180_53 kp_180_20 (tk_63 hT) kf_12_3 rfl (by decide) (by decide) hI242 (ru_63_3 (by omega) (by omega)) (fun M243 hI243 u243 => ?_)
            have hFm243 := hFm242.up u243 rfl
            refine s_aload_n kx_180_56 rfl ?_
            refine s_iconst (v := (-1)) kx_180_57 (by decide) ?_
            refine r_put (k := 63) (f := 13) kx_180_58 kp_180_51 (tk_63 hT) kf_12_13 rfl (by decide) (by decide) hI243 (ru_63_13 (by omega) (by omega)) (fun M244 hI244 u244 => ?_)
            have hFm244 := hFm243.up u244 rfl
            refine s_iload_n kx_180_61 rfl ?_
            refine s_aload_n kx_180_62 rfl ?_
            refine r_getK (k := 63) (f := 2) kx_180_63 kp_180_17 (tk_63 hT) kf_12_2 (fun _ => rfl) ((u244.2 63 2 (by omega)).trans ((u243.2 63 2 (by omega)).trans ((u242.2 63 2 (by omega)).trans ((u241.2 63 2 (by omega)).trans v10e)))) ?_
            refine s_icmp_lt (t := 70) kx_180_66 (by decide) (fun hc245 => ?_) (fun hc245 => ?_)
            · refine s_aload_n kx_180_70 rfl ?_
              refine r_getR (k := 63) (f := 0) (k2 := 64) kx_180_71 kp_180_7 (tk_63 hT) kf_12_0 (by decide) (rq_63_0 hI244) ?_
              refine s_iload_n kx_180_74 rfl ?_
              refine r_aldK (k := 64) kx_180_75 (tk_64 hT) ⟨by omega, by omega⟩ ((u244.2 64 _ (by omega)).trans ((u243.2 64 _ (by omega)).trans ((u242.2 64 _ (by omega)).trans ((u241.2 64 _ (by omega)).trans v238e)))) ?_
              refine s_callS2 (s1 := 1) (s2 := 0) (as := [(0, v238)]) (rest := []) kx_180_76 kp_180_267 rfl kcl_177 rfl rfl (by decide) (m_177 (d := d) (c := v238) hT hI244) (kF (fun v246 v246p => ?_))
              refine s_istore_n kx_180_79 km_180_2 rfl ?_
              refine s_aload_n kx_180_80 rfl ?_
              refine r_getR (k := 63) (f := 0) (k2 := 64) kx_180_81 kp_180_7 (tk_63 hT) kf_12_0 (by decide) (rq_63_0 hI244) ?_
              refine s_iload_n kx_180_84 rfl ?_
              refine r_aldK (k := 64) kx_180_85 (tk_64 hT) ⟨by omega, by omega⟩ ((u244.2 64 _ (by omega)).trans ((u243.2 64 _ (by omega)).trans ((u242.2 64 _ (by omega)).trans ((u241.2 64 _ (by omega)).trans v238e)))) ?_
              refine s_callS2 (s1 := 1) (s2 := 0) (as := [(0, v238)]) (rest := []) kx_180_86 kp_180_271 rfl kcl_178 rfl rfl (by decide) (m_178 (d := d) (c := v238) hT hI244) (kF (fun v247 v247p => ?_))
              refine s_istore_n kx_180_89 km_180_3 rfl ?_
              refine s_iload_n kx_180_90 rfl ?_
              have jn268 : ∀ M269 : cM, Rng M269 → Fr fS_180_j91 M244 M269 → Fr fS_180_m M M269 → cP k_P xs Ln (d + 1) 180 135 [(0, rf 63), (1, (0, x1_2)), (2, (0, v246)), (3, (0, v247))] [] (T, M269) (qV T M fS_180_m (fun M1 => M 63 5 ≤ M1 63 4 ∧ M1 63 4 ≤ M1 63 5 ∧ (M1 63 3 = 0 ∨ M1 63 4 + 1 ≤ M1 63 5))) := by
                intro M269 hI269 fj269 hFm269
                refine s_aload_n kx_180_135 rfl ?_
                refine s_iconst (v := 0) kx_180_136 (by decide) ?_
                refine r_put (k := 63) (f := 6) kx_180_137 kp_180_29 (tk_63 hT) kf_12_6 rfl (by decide) (by decide) hI269 ru_63_6 (fun M270 hI270 u270 => ?_)
                have hFm270 := hFm269.up u270 rfl
                refine s_aload_n kx_180_140 rfl ?_
                refine s_lconst (v := 0) kx_180_141 (by decide) ?_
                refine r_put (k := 63) (f := 7) kx_180_142 kp_180_32 (tk_63 hT) kf_12_7 rfl (by decide) (by decide) hI270 ru_63_7 (fun M271 hI271 u271 => ?_)
                have hFm271 := hFm270.up u271 rfl
                refine s_aload_n kx_180_145 rfl ?_
                refine s_iconst (v := 3) kx_180_146 (by decide) ?_
                refine r_put (k := 63) (f := 3) kx_180_147 kp_180_20 (tk_63 hT) kf_12_3 rfl (by decide) (by decide) hI271 (ru_63_3 (by omega) (by omega)) (fun M272 hI272 u272 => ?_)
                have hFm272 := hFm271.up u272 rfl
                refine s_aload_n kx_180_150 rfl ?_
                refine s_iload_n kx_180_151 rfl ?_
                refine s_iconst (v := 1) kx_180_152 (by decide) ?_
                refine r_add kx_180_153 ⟨by omega, by omega⟩ ?_
                refine r_put (k := 63) (f := 5) kx_180_154 kp_180_26 (tk_63 hT) kf_12_5 rfl (by decide) (by decide) hI272 (ru_63_5 (by omega) (by omega)) (fun M273 hI273 u273 => ?_)
                have hFm273 := hFm272.up u273 rfl
                refine s_iload_n kx_180_157 rfl ?_
                refine s_if_ne (t := 176) kx_180_158 (by decide) (fun hc274 => ?_) (fun hc274 => ?_)
                · refine s_aload_n kx_180_176 rfl ?_
                  refine s_iload_n kx_180_177 rfl ?_
                  refine s_if_eq (t := 185) kx_180_178 (by decide) (fun hc275 => absurd hc275 (by omega)) (fun hc275 => ?_)
                  refine s_iconst (v := 1) kx_180_181 (by decide) ?_
                  refine s_goto (t := 186) kx_180_182 (by decide) ?_
                  refine r_put (k := 63) (f := 3) kx_180_186 kp_180_20 (tk_63 hT) kf_12_3 rfl (by decide) (by decide) hI273 (ru_63_3 (by omega) (by omega)) (fun M276 hI276 u276 => ?_)
                  have hFm276 := hFm273.up u276 rfl
                  refine s_iload_n kx_180_189 rfl ?_
                  refine s_if_eq (t := 198) kx_180_190 (by decide) (fun hc277 => absurd hc277 (by omega)) (fun hc277 => ?_)
                  refine s_bipush (v := 6) kx_180_193 (by decide) ?_
                  refine s_goto (t := 199) kx_180_195 (by decide) ?_
                  refine s_istore kx_180_199 km_180_4 rfl ?_
                  refine s_iconst (v := 0) kx_180_201 (by decide) ?_
                  refine s_istore kx_180_202 km_180_5 rfl ?_
                  have key281 : ∀ n282 : Nat, ∀ (x1_278 x5_279 : Int), ∀ M280 : cM, Rng M280 → Fr fS_180_m M M280 → Fr fS_180_l204 M276 M280 → (0 ≤ x1_278) → (x1_278 ≤ 1600) → (0 ≤ x5_279) → (x5_279 ≤ 1600) → (x1_2 ≤ x1_278) → (x5_279 ≤ x1_278) → (2147483647 - x5_279).toNat < n282 → cP k_P xs Ln (d + 1) 180 204 [(0, rf 63), (1, (0, x1_278)), (2, (0, v246)), (3, (0, v247)), (4, (0, 6)), (5, (0, x5_279))] [] (T, M280) (qV T M fS_180_m (fun M1 => M 63 5 ≤ M1 63 4 ∧ M1 63 4 ≤ M1 63 5 ∧ (M1 63 3 = 0 ∨ M1 63 4 + 1 ≤ M1 63 5))) := by
                    intro n282
                    induction n282 with
                    | zero => intro x1_278 x5_279 M280 hI280 hFm280 fl280 i283 i284 i285 i286 i287 i288 hm289; exact absurd hm289 (Nat.not_lt_zero _)
                    | succ n282 ih290 =>
                      intro x1_278 x5_279 M280 hI280 hFm280 fl280 i283 i284 i285 i286 i287 i288 hm289
                      refine s_iload_n kx_180_204 rfl ?_
                      refine s_aload_n kx_180_205 rfl ?_
                      refine r_getK (k := 63) (f := 2) kx_180_206 kp_180_17 (tk_63 hT) kf_12_2 (fun _ => rfl) ((fl280 63 2 rfl).trans ((u276.2 63 2 (by omega)).trans ((u273.2 63 2 (by omega)).trans ((u272.2 63 2 (by omega)).trans ((u271.2 63 2 (by omega)).trans ((u270.2 63 2 (by omega)).trans ((fj269 63 2 rfl).trans ((u244.2 63 2 (by omega)).trans ((u243.2 63 2 (by omega)).trans ((u242.2 63 2 (by omega)).trans ((u241.2 63 2 (by omega)).trans v10e))))))))))) ?_
                      refine s_icmp_ge (t := 351) kx_180_209 (by decide) (fun hc291 => ?_) (fun hc291 => ?_)
                      · refine s_aload_n kx_180_351 rfl ?_
                        refine s_iload_n kx_180_352 rfl ?_
                        refine r_put (k := 63) (f := 5) kx_180_353 kp_180_26 (tk_63 hT) kf_12_5 rfl (by decide) (by decide) hI280 (ru_63_5 (by omega) (by omega)) (fun M292 hI292 u292 => ?_)
                        have hFm292 := hFm280.up u292 rfl
                        refine s_iload_n kx_180_356 rfl ?_
                        refine s_if_eq (t := 411) kx_180_357 (by decide) (fun hc293 => absurd hc293 (by omega)) (fun hc293 => ?_)
                        refine s_iload kx_180_360 rfl ?_
                        refine s_bipush (v := 9) kx_180_362 (by decide) ?_
                        have jn306 : ∀ M307 : cM, Rng M307 → Fr fS_180_j364 M292 M307 → Fr fS_180_m M M307 → cP k_P xs Ln (d + 1) 180 411 [(0, rf 63), (2, (0, v246)), (4, (0, 6)), (5, (0, x5_279))] [] (T, M307) (qV T M fS_180_m (fun M1 => M 63 5 ≤ M1 63 4 ∧ M1 63 4 ≤ M1 63 5 ∧ (M1 63 3 = 0 ∨ M1 63 4 + 1 ≤ M1 63 5))) := by
                          intro M307 hI307 fj307 hFm307
                          refine s_iload_n kx_180_411 rfl ?_
                          refine s_if_eq (t := 452) kx_180_412 (by decide) (fun hc308 => absurd hc308 (by omega)) (fun hc308 => ?_)
                          refine s_iload kx_180_415 rfl ?_
                          refine s_bipush (v := 8) kx_180_417 (by decide) ?_
                          refine s_icmp_gt (t := 452) kx_180_419 (by decide) (fun hc309 => ?_) (fun hc309 => ?_)
                          · have hk310 : M307 63 3 = 1 := ((fj307 63 3 rfl).trans ((u292.2 63 3 (by omega)).trans ((fl280 63 3 rfl).trans u276.1)))
                            have hk311 : M307 63 4 = x1_2 := ((fj307 63 4 rfl).trans ((u292.2 63 4 (by omega)).trans ((fl280 63 4 rfl).trans ((u276.2 63 4 (by omega)).trans ((u273.2 63 4 (by omega)).trans ((u272.2 63 4 (by omega)).trans ((u271.2 63 4 (by omega)).trans ((u270.2 63 4 (by omega)).trans ((fj269 63 4 rfl).trans ((u244.2 63 4 (by omega)).trans ((u243.2 63 4 (by omega)).trans ((u242.2 63 4 (by omega)).trans u241.1))))))))))))
                            have hk312 : M307 63 5 = x1_278 := ((fj307 63 5 rfl).trans u292.1)
                            exact s_vret kx_180_452 kq_180 ⟨_, rfl, rfl, hI307, hFm307, (by omega)⟩
                          · refine s_aload_n kx_180_422 rfl ?_
                            refine r_getI (k := 63) (f := 13) kx_180_423 kp_180_51 (tk_63 hT) kf_12_13 (fun _ => rfl) (rg_63_13 hI307) (fun v313 v313e v313a v313b => ?_)
                            refine s_aload_n kx_180_426 rfl ?_
                            refine r_getK (k := 63) (f := 4) kx_180_427 kp_180_23 (tk_63 hT) kf_12_4 (fun _ => rfl) ((fj307 63 4 rfl).trans ((u292.2 63 4 (by omega)).trans ((fl280 63 4 rfl).trans ((u276.2 63 4 (by omega)).trans ((u273.2 63 4 (by omega)).trans ((u272.2 63 4 (by omega)).trans ((u271.2 63 4 (by omega)).trans ((u270.2 63 4 (by omega)).trans ((fj269 63 4 rfl).trans ((u244.2 63 4 (by omega)).trans ((u243.2 63 4 (by omega)).trans ((u242.2 63 4 (by omega)).trans u241.1)))))))))))) ?_
                            refine s_iload kx_180_430 rfl ?_
                            refine r_add kx_180_432 ⟨by omega, by omega⟩ ?_
                            refine s_icmp_ne (t := 452) kx_180_433 (by decide) (fun hc314 => ?_) (fun hc314 => ?_)
                            · have hk315 : M307 63 3 = 1 := ((fj307 63 3 rfl).trans ((u292.2 63 3 (by omega)).trans ((fl280 63 3 rfl).trans u276.1)))
                              have hk316 : M307 63 4 = x1_2 := ((fj307 63 4 rfl).trans ((u292.2 63 4 (by omega)).trans ((fl280 63 4 rfl).trans ((u276.2 63 4 (by omega)).trans ((u273.2 63 4 (by omega)).trans ((u272.2 63 4 (by omega)).trans ((u271.2 63 4 (by omega)).trans ((u270.2 63 4 (by omega)).trans ((fj269 63 4 rfl).trans ((u244.2 63 4 (by omega)).trans ((u243.2 63 4 (by omega)).trans ((u242.2 63 4 (by omega)).trans u241.1))))))))))))
                              have hk317 : M307 63 5 = x1_278 := ((fj307 63 5 rfl).trans u292.1)
                              exact s_vret kx_180_452 kq_180 ⟨_, rfl, rfl, hI307, hFm307, (by omega)⟩
                            · refine s_aload_n kx_180_436 rfl ?_
                              refine s_aload_n kx_180_437 rfl ?_
                              refine r_getU (k := 63) (f := 7) kx_180_438 kp_180_32 (tk_63 hT) kf_12_7 (fun _ => rfl) (fun v318 v318e => ?_)
                              refine s_callV2 (k := 63) (s1 := 3) (s2 := 0) (as := [(1, v318)]) (rest := []) kx_180_441 kp_180_276 (Or.inl rfl) rfl (tk_63 hT) ki_184 kcl_184 rfl rfl (by decide) (m_184 (d := d) (w := v318) hT hI307) (kF (fun v319 v319p => ?_))
                              refine s_if_eq (t := 452) kx_180_444 (by decide) (fun hc320 => ?_) (fun hc320 => ?_)
                              · have hk321 : M307 63 3 = 1 := ((fj307 63 3 rfl).trans ((u292.2 63 3 (by omega)).trans ((fl280 63 3 rfl).trans u276.1)))
                                have hk322 : M307 63 4 = x1_2 := ((fj307 63 4 rfl).trans ((u292.2 63 4 (by omega)).trans ((fl280 63 4 rfl).trans ((u276.2 63 4 (by omega)).trans ((u273.2 63 4 (by omega)).trans ((u272.2 63 4 (by omega)).trans ((u271.2 63 4 (by omega)).trans ((u270.2 63 4 (by omega)).trans ((fj269 63 4 rfl).trans ((u244.2 63 4 (by omega)).trans ((u243.2 63 4 (by omega)).trans ((u242.2 63 4 (by omega)).trans u241.1))))))))))))
                                have hk323 : M307 63 5 = x1_278 := ((fj307 63 5 rfl).trans u292.1)
                                exact s_vret kx_180_452 kq_180 ⟨_, rfl, rfl, hI307, hFm307, (by omega)⟩
                              · refine s_aload_n kx_180_447 rfl ?_
                                refine s_iconst (v := (-1)) kx_180_448 (by decide) ?_
                                refine r_put (k := 63) (f := 13) kx_180_449 kp_180_51 (tk_63 hT) kf_12_13 rfl (by decide) (by decide) hI307 (ru_63_13 (by omega) (by omega)) (fun M324 hI324 u324 => ?_)
                                have hFm324 := hFm307.up u324 rfl
                                have hk325 : M324 63 3 = 1 := ((u324.2 63 3 (by omega)).trans ((fj307 63 3 rfl).trans ((u292.2 63 3 (by omega)).trans ((fl280 63 3 rfl).trans u276.1))))
                                have hk326 : M324 63 4 = x1_2 := ((u324.2 63 4 (by omega)).trans ((fj307 63 4 rfl).trans ((u292.2 63 4 (by omega)).trans ((fl280 63 4 rfl).trans ((u276.2 63 4 (by omega)).trans ((u273.2 63 4 (by omega)).trans ((u272.2 63 4 (by omega)).trans ((u271.2 63 4 (by omega)).trans ((u270.2 63 4 (by omega)).trans ((fj269 63 4 rfl).trans ((u244.2 63 4 (by omega)).trans ((u243.2 63 4 (by omega)).trans ((u242.2 63 4 (by omega)).trans u241.1)))))))))))))
                                have hk327 : M324 63 5 = x1_278 := ((u324.2 63 5 (by omega)).trans ((fj307 63 5 rfl).trans u292.1))
                                exact s_vret kx_180_452 kq_180 ⟨_, rfl, rfl, hI324, hFm324, (by omega)⟩
                        refine s_icmp_ne (t := 411) kx_180_364 (by decide) (fun hc294 => ?_) (fun hc294 => ?_)
                        · have hJ295 : Fr fS_180_j364 M292 M292 := Fr.refl
                          exact cP.wk (lS1 rfl (lS1 rfl (lS1 rfl (lS1 rfl lS0)))) (jn306 M292 hI292 hJ295 hFm292)
                        · have hJ296 : Fr fS_180_j364 M292 M292 := Fr.refl
                          refine s_aload_n kx_180_367 rfl ?_
                          refine r_getU (k := 63) (f := 7) kx_180_368 kp_180_32 (tk_63 hT) kf_12_7 (fun _ => rfl) (fun v297 v297e => ?_)
                          refine s_ldc2_w kx_180_371 kp_180_274 ?_
                          refine r_lcmpR kx_180_374 (fun v298 => ?_)
                          refine s_if_ne (t := 411) kx_180_375 (by decide) (fun hc299 => ?_) (fun hc299 => ?_)
                          · exact cP.wk (lS1 rfl (lS1 rfl (lS1 rfl (lS1 rfl lS0)))) (jn306 M292 hI292 hJ296 hFm292)
                          · refine s_aload_n kx_180_378 rfl ?_
                            refine r_getU (k := 63) (f := 8) kx_180_379 kp_180_36 (tk_63 hT) kf_12_8 (fun _ => rfl) (fun v300 v300e => ?_)
                            refine s_bipush (v := 114) kx_180_382 (by decide) ?_
                            refine s_icmp_ne (t := 411) kx_180_384 (by decide) (fun hc301 => ?_) (fun hc301 => ?_)
                            · exact cP.wk (lS1 rfl (lS1 rfl (lS1 rfl (lS1 rfl lS0)))) (jn306 M292 hI292 hJ296 hFm292)
                            · refine s_aload_n kx_180_387 rfl ?_
                              refine s_lconst (v := 1) kx_180_388 (by decide) ?_
                              refine r_put (k := 63) (f := 7) kx_180_389 kp_180_32 (tk_63 hT) kf_12_7 rfl (by decide) (by decide) hI292 ru_63_7 (fun M302 hI302 u302 => ?_)
                              have hFm302 := hFm292.up u302 rfl
                              have hFj364302 := hJ296.up u302 rfl
                              refine s_aload_n kx_180_392 rfl ?_
                              refine r_getI (k := 63) (f := 13) kx_180_393 kp_180_51 (tk_63 hT) kf_12_13 (fun _ => rfl) (rg_63_13 hI302) (fun v303 v303e v303a v303b => ?_)
                              refine s_aload_n kx_180_396 rfl ?_
                              refine r_getK (k := 63) (f := 4) kx_180_397 kp_180_23 (tk_63 hT) kf_12_4 (fun _ => rfl) ((u302.2 63 4 (by omega)).trans ((u292.2 63 4 (by omega)).trans ((fl280 63 4 rfl).trans ((u276.2 63 4 (by omega)).trans ((u273.2 63 4 (by omega)).trans ((u272.2 63 4 (by omega)).trans ((u271.2 63 4 (by omega)).trans ((u270.2 63 4 (by omega)).trans ((fj269 63 4 rfl).trans ((u244.2 63 4 (by omega)).trans ((u243.2 63 4 (by omega)).trans ((u242.2 63 4 (by omega)).trans u241.1)))))))))))) ?_
                              refine s_iload kx_180_400 rfl ?_
                              refine r_add kx_180_402 ⟨by omega, by omega⟩ ?_
                              refine s_icmp_ne (t := 411) kx_180_403 (by decide) (fun hc304 => ?_) (fun hc304 => ?_)
                              · exact cP.wk (lS1 rfl (lS1 rfl (lS1 rfl (lS1 rfl lS0)))) (jn306 M302 hI302 hFj364302 hFm302)
                              · refine s_aload_n kx_180_406 rfl ?_
                                refine s_iconst (v := (-1)) kx_180_407 (by decide) ?_
                                refine r_put (k := 63) (f := 13) kx_180_408 kp_180_51 (tk_63 hT) kf_12_13 rfl (by decide) (by decide) hI302 (ru_63_13 (by omega) (by omega)) (fun M305 hI305 u305 => ?_)
                                have hFm305 := hFm302.up u305 rfl
                                have hFj364305 := hFj364302.up u305 rfl
                                exact cP.wk (lS1 rfl (lS1 rfl (lS1 rfl (lS1 rfl lS0)))) (jn306 M305 hI305 hFj364305 hFm305)
                      · refine s_iload_n kx_180_212 rfl ?_
                        refine s_if_eq (t := 231) kx_180_213 (by decide) (fun hc328 => absurd hc328 (by omega)) (fun hc328 => ?_)
                        refine s_aload_n kx_180_216 rfl ?_
                        refine r_getR (k := 63) (f := 0) (k2 := 64) kx_180_217 kp_180_7 (tk_63 hT) kf_12_0 (by decide) (rq_63_0 hI280) ?_
                        refine s_iload_n kx_180_220 rfl ?_
                        refine r_ald (k := 64) kx_180_221 (tk_64 hT) ⟨by omega, by omega⟩ (rg_64 hI280) (fun v329 v329e v329a v329b => ?_)
                        refine s_callS2 (s1 := 1) (s2 := 0) (as := [(0, v329)]) (rest := []) kx_180_222 kp_180_267 rfl kcl_177 rfl rfl (by decide) (m_177 (d := d) (c := v329) hT hI280) (kF (fun v330 v330p => ?_))
                        refine s_if_eq (t := 351) kx_180_225 (by decide) (fun hc331 => ?_) (fun hc331 => ?_)
                        · replace v330p := v330p.resolve_left (by omega)
                          have hge : x1_2 + 1 ≤ x1_278 := if e : x1_278 = x1_2 then absurd (v329e) (by rw [e, ((fl280 64 _ rfl).trans ((u276.2 64 _ (by omega)).trans ((u273.2 64 _ (by omega)).trans ((u272.2 64 _ (by omega)).trans ((u271.2 64 _ (by omega)).trans ((u270.2 64 _ (by omega)).trans ((fj269 64 _ rfl).trans ((u244.2 64 _ (by omega)).trans ((u243.2 64 _ (by omega)).trans ((u242.2 64 _ (by omega)).trans ((u241.2 64 _ (by omega)).trans v238e)))))))))))]; omega) else (by omega)
                          refine s_aload_n kx_180_351 rfl ?_
                          refine s_iload_n kx_180_352 rfl ?_
                          refine r_put (k := 63) (f := 5) kx_180_353 kp_180_26 (tk_63 hT) kf_12_5 rfl (by decide) (by decide) hI280 (ru_63_5 (by omega) (by omega)) (fun M332 hI332 u332 => ?_)
                          have hFm332 := hFm280.up u332 rfl
                          refine s_iload_n kx_180_356 rfl ?_
                          refine s_if_eq (t := 411) kx_180_357 (by decide) (fun hc333 => absurd hc333 (by omega)) (fun hc333 => ?_)
                          refine s_iload kx_180_360 rfl ?_
                          refine s_bipush (v := 9) kx_180_362 (by decide) ?_
                          have jn346 : ∀ M347 : cM, Rng M347 → Fr fS_180_j364 M332 M347 → Fr fS_180_m M M347 → cP k_P xs Ln (d + 1) 180 411 [(0, rf 63), (2, (0, v246)), (4, (0, 6)), (5, (0, x5_279))] [] (T, M347) (qV T M fS_180_m (fun M1 => M 63 5 ≤ M1 63 4 ∧ M1 63 4 ≤ M1 63 5 ∧ (M1 63 3 = 0 ∨ M1 63 4 + 1 ≤ M1 63 5))) := by
                            intro M347 hI347 fj347 hFm347
                            refine s_iload_n kx_180_411 rfl ?_
                            refine s_if_eq (t := 452) kx_180_412 (by decide) (fun hc348 => absurd hc348 (by omega)) (fun hc348 => ?_)
                            refine s_iload kx_180_415 rfl ?_
                            refine s_bipush (v := 8) kx_180_417 (by decide) ?_
                            refine s_icmp_gt (t := 452) kx_180_419 (by decide) (fun hc349 => ?_) (fun hc349 => ?_)
                            · have hk350 : M347 63 3 = 1 := ((fj347 63 3 rfl).trans ((u332.2 63 3 (by omega)).trans ((fl280 63 3 rfl).trans u276.1)))
                              have hk351 : M347 63 4 = x1_2 := ((fj347 63 4 rfl).trans ((u332.2 63 4 (by omega)).trans ((fl280 63 4 rfl).trans ((u276.2 63 4 (by omega)).trans ((u273.2 63 4 (by omega)).trans ((u272.2 63 4 (by omega)).trans ((u271.2 63 4 (by omega)).trans ((u270.2 63 4 (by omega)).trans ((fj269 63 4 rfl).trans ((u244.2 63 4 (by omega)).trans ((u243.2 63 4 (by omega)).trans ((u242.2 63 4 (by omega)).trans u241.1))))))))))))
                              have hk352 : M347 63 5 = x1_278 := ((fj347 63 5 rfl).trans u332.1)
                              exact s_vret kx_180_452 kq_180 ⟨_, rfl, rfl, hI347, hFm347, (by omega)⟩
                            · refine s_aload_n kx_180_422 rfl ?_
                              refine r_getI (k := 63) (f := 13) kx_180_423 kp_180_51 (tk_63 hT) kf_12_13 (fun _ => rfl) (rg_63_13 hI347) (fun v353 v353e v353a v353b => ?_)
                              refine s_aload_n kx_180_426 rfl ?_
                              refine r_getK (k := 63) (f := 4) kx_180_427 kp_180_23 (tk_63 hT) kf_12_4 (fun _ => rfl) ((fj347 63 4 rfl).trans ((u332.2 63 4 (by omega)).trans ((fl280 63 4 rfl).trans ((u276.2 63 4 (by omega)).trans ((u273.2 63 4 (by omega)).trans ((u272.2 63 4 (by omega)).trans ((u271.2 63 4 (by omega)).trans ((u270.2 63 4 (by omega)).trans ((fj269 63 4 rfl).trans ((u244.2 63 4 (by omega)).trans ((u243.2 63 4 (by omega)).trans ((u242.2 63 4 (by omega)).trans u241.1)))))))))))) ?_
                              refine s_iload kx_180_430 rfl ?_
                              refine r_add kx_180_432 ⟨by omega, by omega⟩ ?_
                              refine s_icmp_ne (t := 452) kx_180_433 (by decide) (fun hc354 => ?_) (fun hc354 => ?_)
                              · have hk355 : M347 63 3 = 1 := ((fj347 63 3 rfl).trans ((u332.2 63 3 (by omega)).trans ((fl280 63 3 rfl).trans u276.1)))
                                have hk356 : M347 63 4 = x1_2 := ((fj347 63 4 rfl).trans ((u332.2 63 4 (by omega)).trans ((fl280 63 4 rfl).trans ((u276.2 63 4 (by omega)).trans ((u273.2 63 4 (by omega)).trans ((u272.2 63 4 (by omega)).trans ((u271.2 63 4 (by omega)).trans ((u270.2 63 4 (by omega)).trans ((fj269 63 4 rfl).trans ((u244.2 63 4 (by omega)).trans ((u243.2 63 4 (by omega)).trans ((u242.2 63 4 (by omega)).trans u241.1))))))))))))
                                have hk357 : M347 63 5 = x1_278 := ((fj347 63 5 rfl).trans u332.1)
                                exact s_vret kx_180_452 kq_180 ⟨_, rfl, rfl, hI347, hFm347, (by omega)⟩
                              · refine s_aload_n kx_180_436 rfl ?_
                                refine s_aload_n kx_180_437 rfl ?_
                                refine r_getU (k := 63) (f := 7) kx_180_438 kp_180_32 (tk_63 hT) kf_12_7 (fun _ => rfl) (fun v358 v358e => ?_)
                                refine s_callV2 (k := 63) (s1 := 3) (s2 := 0) (as := [(1, v358)]) (rest := []) kx_180_441 kp_180_276 (Or.inl rfl) rfl (tk_63 hT) ki_184 kcl_184 rfl rfl (by decide) (m_184 (d := d) (w := v358) hT hI347) (kF (fun v359 v359p => ?_))
                                refine s_if_eq (t := 452) kx_180_444 (by decide) (fun hc360 => ?_) (fun hc360 => ?_)
                                · have hk361 : M347 63 3 = 1 := ((fj347 63 3 rfl).trans ((u332.2 63 3 (by omega)).trans ((fl280 63 3 rfl).trans u276.1)))
                                  have hk362 : M347 63 4 = x1_2 := ((fj347 63 4 rfl).trans ((u332.2 63 4 (by omega)).trans ((fl280 63 4 rfl).trans ((u276.2 63 4 (by omega)).trans ((u273.2 63 4 (by omega)).trans ((u272.2 63 4 (by omega)).trans ((u271.2 63 4 (by omega)).trans ((u270.2 63 4 (by omega)).trans ((fj269 63 4 rfl).trans ((u244.2 63 4 (by omega)).trans ((u243.2 63 4 (by omega)).trans ((u242.2 63 4 (by omega)).trans u241.1))))))))))))
                                  have hk363 : M347 63 5 = x1_278 := ((fj347 63 5 rfl).trans u332.1)
                                  exact s_vret kx_180_452 kq_180 ⟨_, rfl, rfl, hI347, hFm347, (by omega)⟩
                                · refine s_aload_n kx_180_447 rfl ?_
                                  refine s_iconst (v := (-1)) kx_180_448 (by decide) ?_
                                  refine r_put (k := 63) (f := 13) kx_180_449 kp_180_51 (tk_63 hT) kf_12_13 rfl (by decide) (by decide) hI347 (ru_63_13 (by omega) (by omega)) (fun M364 hI364 u364 => ?_)
                                  have hFm364 := hFm347.up u364 rfl
                                  have hk365 : M364 63 3 = 1 := ((u364.2 63 3 (by omega)).trans ((fj347 63 3 rfl).trans ((u332.2 63 3 (by omega)).trans ((fl280 63 3 rfl).trans u276.1))))
                                  have hk366 : M364 63 4 = x1_2 := ((u364.2 63 4 (by omega)).trans ((fj347 63 4 rfl).trans ((u332.2 63 4 (by omega)).trans ((fl280 63 4 rfl).trans ((u276.2 63 4 (by omega)).trans ((u273.2 63 4 (by omega)).trans ((u272.2 63 4 (by omega)).trans ((u271.2 63 4 (by omega)).trans ((u270.2 63 4 (by omega)).trans ((fj269 63 4 rfl).trans ((u244.2 63 4 (by omega)).trans ((u243.2 63 4 (by omega)).trans ((u242.2 63 4 (by omega)).trans u241.1)))))))))))))
                                  have hk367 : M364 63 5 = x1_278 := ((u364.2 63 5 (by omega)).trans ((fj347 63 5 rfl).trans u332.1))
                                  exact s_vret kx_180_452 kq_180 ⟨_, rfl, rfl, hI364, hFm364, (by omega)⟩
                          refine s_icmp_ne (t := 411) kx_180_364 (by decide) (fun hc334 => ?_) (fun hc334 => ?_)
                          · have hJ335 : Fr fS_180_j364 M332 M332 := Fr.refl
                            exact cP.wk (lS1 rfl (lS1 rfl (lS1 rfl (lS1 rfl lS0)))) (jn346 M332 hI332 hJ335 hFm332)
                          · have hJ336 : Fr fS_180_j364 M332 M332 := Fr.refl
                            refine s_aload_n kx_180_367 rfl ?_
                            refine r_getU (k := 63) (f := 7) kx_180_368 kp_180_32 (tk_63 hT) kf_12_7 (fun _ => rfl) (fun v337 v337e => ?_)
                            refine s_ldc2_w kx_180_371 kp_180_274 ?_
                            refine r_lcmpR kx_180_374 (fun v338 => ?_)
                            refine s_if_ne (t := 411) kx_180_375 (by decide) (fun hc339 => ?_) (fun hc339 => ?_)
                            · exact cP.wk (lS1 rfl (lS1 rfl (lS1 rfl (lS1 rfl lS0)))) (jn346 M332 hI332 hJ336 hFm332)
                            · refine s_aload_n kx_180_378 rfl ?_
                              refine r_getU (k := 63) (f := 8) kx_180_379 kp_180_36 (tk_63 hT) kf_12_8 (fun _ => rfl) (fun v340 v340e => ?_)
                              refine s_bipush (v := 114) kx_180_382 (by decide) ?_
                              refine s_icmp_ne (t := 411) kx_180_384 (by decide) (fun hc341 => ?_) (fun hc341 => ?_)
                              · exact cP.wk (lS1 rfl (lS1 rfl (lS1 rfl (lS1 rfl lS0)))) (jn346 M332 hI332 hJ336 hFm332)
                              · refine s_aload_n kx_180_387 rfl ?_
                                refine s_lconst (v := 1) kx_180_388 (by decide) ?_
                                refine r_put (k := 63) (f := 7) kx_180_389 kp_180_32 (tk_63 hT) kf_12_7 rfl (by decide) (by decide) hI332 ru_63_7 (fun M342 hI342 u342 => ?_)
                                have hFm342 := hFm332.up u342 rfl
                                have hFj364342 := hJ336.up u342 rfl
                                refine s_aload_n kx_180_392 rfl ?_
                                refine r_getI (k := 63) (f := 13) kx_180_393 kp_180_51 (tk_63 hT) kf_12_13 (fun _ => rfl) (rg_63_13 hI342) (fun v343 v343e v343a v343b => ?_)
                                refine s_aload_n kx_180_396 rfl ?_
                                refine r_getK (k := 63) (f := 4) kx_180_397 kp_180_23 (tk_63 hT) kf_12_4 (fun _ => rfl) ((u342.2 63 4 (by omega)).trans ((u332.2 63 4 (by omega)).trans ((fl280 63 4 rfl).trans ((u276.2 63 4 (by omega)).trans ((u273.2 63 4 (by omega)).trans ((u272.2 63 4 (by omega)).trans ((u271.2 63 4 (by omega)).trans ((u270.2 63 4 (by omega)).trans ((fj269 63 4 rfl).trans ((u244.2 63 4 (by omega)).trans ((u243.2 63 4 (by omega)).trans ((u242.2 63 4 (by omega)).trans u241.1)))))))))))) ?_
                                refine s_iload kx_180_400 rfl ?_
                                refine r_add kx_180_402 ⟨by omega, by omega⟩ ?_
                                refine s_icmp_ne (t := 411) kx_180_403 (by decide) (fun hc344 => ?_) (fun hc344 => ?_)
                                · exact cP.wk (lS1 rfl (lS1 rfl (lS1 rfl (lS1 rfl lS0)))) (jn346 M342 hI342 hFj364342 hFm342)
                                · refine s_aload_n kx_180_406 rfl ?_
                                  refine s_iconst (v := (-1)) kx_180_407 (by decide) ?_
                                  refine r_put (k := 63) (f := 13) kx_180_408 kp_180_51 (tk_63 hT) kf_12_13 rfl (by decide) (by decide) hI342 (ru_63_13 (by omega) (by omega)) (fun M345 hI345 u345 => ?_)
                                  have hFm345 := hFm342.up u345 rfl
                                  have hFj364345 := hFj364342.up u345 rfl
                                  exact cP.wk (lS1 rfl (lS1 rfl (lS1 rfl (lS1 rfl lS0)))) (jn346 M345 hI345 hFj364345 hFm345)
                        · replace v330p := v330p.resolve_right (by omega)
                          refine s_goto (t := 243) kx_180_228 (by decide) ?_
                          refine s_iload kx_180_243 rfl ?_
                          refine s_iload kx_180_245 rfl ?_
                          have jn374 : ∀ M375 : cM, Rng M375 → Fr fS_180_j247 M280 M375 → Fr fS_180_m M M375 → Fr fS_180_l204 M276 M375 → cP k_P xs Ln (d + 1) 180 263 [(0, rf 63), (1, (0, x1_278)), (2, (0, v246)), (3, (0, v247)), (4, (0, 6)), (5, (0, x5_279))] [] (T, M375) (qV T M fS_180_m (fun M1 => M 63 5 ≤ M1 63 4 ∧ M1 63 4 ≤ M1 63 5 ∧ (M1 63 3 = 0 ∨ M1 63 4 + 1 ≤ M1 63 5))) := by
                            intro M375 hI375 fj375 hFm375 hFl204375
                            refine s_iload kx_180_263 rfl ?_
                            refine s_bipush (v := 8) kx_180_265 (by decide) ?_
                            have jn384 : ∀ M385 : cM, Rng M385 → Fr fS_180_j267 M375 M385 → Fr fS_180_m M M385 → Fr fS_180_l204 M276 M385 → cP k_P xs Ln (d + 1) 180 293 [(0, rf 63), (1, (0, x1_278)), (2, (0, v246)), (3, (0, v247)), (4, (0, 6)), (5, (0, x5_279))] [] (T, M385) (qV T M fS_180_m (fun M1 => M 63 5 ≤ M1 63 4 ∧ M1 63 4 ≤ M1 63 5 ∧ (M1 63 3 = 0 ∨ M1 63 4 + 1 ≤ M1 63 5))) := by
                              intro M385 hI385 fj385 hFm385 hFl204385
                              refine s_iload kx_180_293 rfl ?_
                              refine s_bipush (v := 8) kx_180_295 (by decide) ?_
                              have jn390 : ∀ M391 : cM, Rng M391 → Fr fS_180_j297 M385 M391 → Fr fS_180_m M M391 → Fr fS_180_l204 M276 M391 → cP k_P xs Ln (d + 1) 180 310 [(0, rf 63), (1, (0, x1_278)), (2, (0, v246)), (3, (0, v247)), (4, (0, 6)), (5, (0, x5_279))] [] (T, M391) (qV T M fS_180_m (fun M1 => M 63 5 ≤ M1 63 4 ∧ M1 63 4 ≤ M1 63 5 ∧ (M1 63 3 = 0 ∨ M1 63 4 + 1 ≤ M1 63 5))) := by
                                intro M391 hI391 fj391 hFm391 hFl204391
                                refine s_iload kx_180_310 rfl ?_
                                refine s_iload kx_180_312 rfl ?_
                                refine s_icmp_ge (t := 342) kx_180_314 (by decide) (fun hc392 => ?_) (fun hc392 => ?_)
                                · refine r_iinc kx_180_342 rfl km_180_5 (by decide) ⟨by omega, by omega⟩ rfl ?_
                                  refine r_iinc kx_180_345 rfl km_180_1 (by decide) ⟨by omega, by omega⟩ rfl ?_
                                  refine s_goto (t := 204) kx_180_348 (by decide) ?_
                                  exact cP.wk (lS1 rfl (lS1 rfl (lS1 rfl (lS1 rfl (lS1 rfl (lS1 rfl lS0)))))) (ih290 (x1_278 + 1) (x5_279 + 1) M391 hI391 hFm391 hFl204391 (by omega) (by omega) (by omega) (by omega) (by omega) (by omega) (by omega))
                                · refine s_iload_n kx_180_317 rfl ?_
                                  refine s_if_eq (t := 342) kx_180_318 (by decide) (fun hc393 => ?_) (fun hc393 => ?_)
                                  · refine r_iinc kx_180_342 rfl km_180_5 (by decide) ⟨by omega, by omega⟩ rfl ?_
                                    refine r_iinc kx_180_345 rfl km_180_1 (by decide) ⟨by omega, by omega⟩ rfl ?_
                                    refine s_goto (t := 204) kx_180_348 (by decide) ?_
                                    exact cP.wk (lS1 rfl (lS1 rfl (lS1 rfl (lS1 rfl (lS1 rfl (lS1 rfl lS0)))))) (ih290 (x1_278 + 1) (x5_279 + 1) M391 hI391 hFm391 hFl204391 (by omega) (by omega) (by omega) (by omega) (by omega) (by omega) (by omega))
                                  · refine s_aload_n kx_180_321 rfl ?_
                                    refine s_bipush (v := 10) kx_180_322 (by decide) ?_
                                    refine s_aload_n kx_180_324 rfl ?_
                                    refine r_getU (k := 63) (f := 6) kx_180_325 kp_180_29 (tk_63 hT) kf_12_6 (fun _ => rfl) (fun v394 v394e => ?_)
                                    refine r_imulR kx_180_328 (fun v395 v395a v395b => ?_)
                                    refine s_aload_n kx_180_329 rfl ?_
                                    refine r_getR (k := 63) (f := 0) (k2 := 64) kx_180_330 kp_180_7 (tk_63 hT) kf_12_0 (by decide) (rq_63_0 hI391) ?_
                                    refine s_iload_n kx_180_333 rfl ?_
                                    refine r_aldK (k := 64) kx_180_334 (tk_64 hT) ⟨by omega, by omega⟩ ((fj391 64 _ rfl).trans ((fj385 64 _ rfl).trans ((fj375 64 _ rfl).trans v329e))) ?_
                                    refine r_iaddR kx_180_335 (fun v396 v396a v396b => ?_)
                                    refine s_bipush (v := 48) kx_180_336 (by decide) ?_
                                    refine r_isubR kx_180_338 (fun v397 v397a v397b => ?_)
                                    refine r_put (k := 63) (f := 6) kx_180_339 kp_180_29 (tk_63 hT) kf_12_6 rfl (by decide) (by decide) hI391 ru_63_6 (fun M398 hI398 u398 => ?_)
                                    have hFm398 := hFm391.up u398 rfl
                                    have hFl204398 := hFl204391.up u398 rfl
                                    refine r_iinc kx_180_342 rfl km_180_5 (by decide) ⟨by omega, by omega⟩ rfl ?_
                                    refine r_iinc kx_180_345 rfl km_180_1 (by decide) ⟨by omega, by omega⟩ rfl ?_
                                    refine s_goto (t := 204) kx_180_348 (by decide) ?_
                                    exact cP.wk (lS1 rfl (lS1 rfl (lS1 rfl (lS1 rfl (lS1 rfl (lS1 rfl lS0)))))) (ih290 (x1_278 + 1) (x5_279 + 1) M398 hI398 hFm398 hFl204398 (by omega) (by omega) (by omega) (by omega) (by omega) (by omega) (by omega))
                              refine s_icmp_ne (t := 310) kx_180_297 (by decide) (fun hc386 => ?_) (fun hc386 => ?_)
                              · have hJ387 : Fr fS_180_j297 M385 M385 := Fr.refl
                                exact cP.wk (lS1 rfl (lS1 rfl (lS1 rfl (lS1 rfl (lS1 rfl (lS1 rfl lS0)))))) (jn390 M385 hI385 hJ387 hFm385 hFl204385)
                              · have hJ388 : Fr fS_180_j297 M385 M385 := Fr.refl
                                refine s_aload_n kx_180_300 rfl ?_
                                refine s_aload_n kx_180_301 rfl ?_
                                refine r_getR (k := 63) (f := 0) (k2 := 64) kx_180_302 kp_180_7 (tk_63 hT) kf_12_0 (by decide) (rq_63_0 hI385) ?_
                                refine s_iload_n kx_180_305 rfl ?_
                                refine r_aldK (k := 64) kx_180_306 (tk_64 hT) ⟨by omega, by omega⟩ ((fj385 64 _ rfl).trans ((fj375 64 _ rfl).trans v329e)) ?_
                                refine r_put (k := 63) (f := 8) kx_180_307 kp_180_36 (tk_63 hT) kf_12_8 rfl (by decide) (by decide) hI385 ru_63_8 (fun M389 hI389 u389 => ?_)
                                have hFm389 := hFm385.up u389 rfl
                                have hFl204389 := hFl204385.up u389 rfl
                                have hFj297389 := hJ388.up u389 rfl
                                exact cP.wk (lS1 rfl (lS1 rfl (lS1 rfl (lS1 rfl (lS1 rfl (lS1 rfl lS0)))))) (jn390 M389 hI389 hFj297389 hFm389 hFl204389)
                            refine s_icmp_ge (t := 293) kx_180_267 (by decide) (fun hc376 => ?_) (fun hc376 => ?_)
                            · have hJ377 : Fr fS_180_j267 M375 M375 := Fr.refl
                              exact cP.wk (lS1 rfl (lS1 rfl (lS1 rfl (lS1 rfl (lS1 rfl (lS1 rfl lS0)))))) (jn384 M375 hI375 hJ377 hFm375 hFl204375)
                            · have hJ378 : Fr fS_180_j267 M375 M375 := Fr.refl
                              refine s_iload_n kx_180_270 rfl ?_
                              refine s_if_eq (t := 293) kx_180_271 (by decide) (fun hc379 => absurd hc379 (by omega)) (fun hc379 => ?_)
                              refine s_aload_n kx_180_274 rfl ?_
                              refine s_aload_n kx_180_275 rfl ?_
                              refine r_getU (k := 63) (f := 7) kx_180_276 kp_180_32 (tk_63 hT) kf_12_7 (fun _ => rfl) (fun v380 v380e => ?_)
                              refine s_bipush (v := 8) kx_180_279 (by decide) ?_
                              refine r_lshlR kx_180_281 (fun v381 v381a v381b => ?_)
                              refine s_aload_n kx_180_282 rfl ?_
                              refine r_getR (k := 63) (f := 0) (k2 := 64) kx_180_283 kp_180_7 (tk_63 hT) kf_12_0 (by decide) (rq_63_0 hI375) ?_
                              refine s_iload_n kx_180_286 rfl ?_
                              refine r_aldK (k := 64) kx_180_287 (tk_64 hT) ⟨by omega, by omega⟩ ((fj375 64 _ rfl).trans v329e) ?_
                              refine s_i2l kx_180_288 ?_
                              refine r_lorR kx_180_289 (fun v382 v382a v382b => ?_)
                              refine r_put (k := 63) (f := 7) kx_180_290 kp_180_32 (tk_63 hT) kf_12_7 rfl (by decide) (by decide) hI375 ru_63_7 (fun M383 hI383 u383 => ?_)
                              have hFm383 := hFm375.up u383 rfl
                              have hFl204383 := hFl204375.up u383 rfl
                              have hFj267383 := hJ378.up u383 rfl
                              exact cP.wk (lS1 rfl (lS1 rfl (lS1 rfl (lS1 rfl (lS1 rfl (lS1 rfl lS0)))))) (jn384 M383 hI383 hFj267383 hFm383 hFl204383)
                          refine s_icmp_ne (t := 263) kx_180_247 (by decide) (fun hc368 => ?_) (fun hc368 => ?_)
                          · have hJ369 : Fr fS_180_j247 M280 M280 := Fr.refl
                            exact cP.wk (lS1 rfl (lS1 rfl (lS1 rfl (lS1 rfl (lS1 rfl (lS1 rfl lS0)))))) (jn374 M280 hI280 hJ369 hFm280 fl280)
                          · have hJ370 : Fr fS_180_j247 M280 M280 := Fr.refl
                            refine s_aload_n kx_180_250 rfl ?_
                            refine r_getI (k := 63) (f := 13) kx_180_251 kp_180_51 (tk_63 hT) kf_12_13 (fun _ => rfl) (rg_63_13 hI280) (fun v371 v371e v371a v371b => ?_)
                            refine s_iconst (v := (-1)) kx_180_254 (by decide) ?_
                            refine s_icmp_ne (t := 263) kx_180_255 (by decide) (fun hc372 => ?_) (fun hc372 => ?_)
                            · exact cP.wk (lS1 rfl (lS1 rfl (lS1 rfl (lS1 rfl (lS1 rfl (lS1 rfl lS0)))))) (jn374 M280 hI280 hJ370 hFm280 fl280)
                            · refine s_aload_n kx_180_258 rfl ?_
                              refine s_iload_n kx_180_259 rfl ?_
                              refine r_put (k := 63) (f := 13) kx_180_260 kp_180_51 (tk_63 hT) kf_12_13 rfl (by decide) (by decide) hI280 (ru_63_13 (by omega) (by omega)) (fun M373 hI373 u373 => ?_)
                              have hFm373 := hFm280.up u373 rfl
                              have hFl204373 := fl280.up u373 rfl
                              have hFj247373 := hJ370.up u373 rfl
                              exact cP.wk (lS1 rfl (lS1 rfl (lS1 rfl (lS1 rfl (lS1 rfl (lS1 rfl lS0)))))) (jn374 M373 hI373 hFj247373 hFm373 hFl204373)
                  exact cP.wk (lS1 rfl (lS1 rfl (lS1 rfl (lS1 rfl (lS1 rfl (lS1 rfl lS0)))))) (key281 _ x1_2 0 M276 hI276 hFm276 Fr.refl (by omega) (by omega) (by omega) (by omega) (by omega) (by omega) (Nat.lt_succ_self _))
                · refine s_iload_n kx_180_161 rfl ?_
                  refine s_if_ne (t := 176) kx_180_162 (by decide) (fun hc399 => ?_) (fun hc399 => ?_)
                  · refine s_aload_n kx_180_176 rfl ?_
                    refine s_iload_n kx_180_177 rfl ?_
                    refine s_if_eq (t := 185) kx_180_178 (by decide) (fun hc400 => ?_) (fun hc400 => absurd hc400 (by omega))
                    refine s_iconst (v := 2) kx_180_185 (by decide) ?_
                    refine r_put (k := 63) (f := 3) kx_180_186 kp_180_20 (tk_63 hT) kf_12_3 rfl (by decide) (by decide) hI273 (ru_63_3 (by omega) (by omega)) (fun M401 hI401 u401 => ?_)
                    have hFm401 := hFm273.up u401 rfl
                    refine s_iload_n kx_180_189 rfl ?_
                    refine s_if_eq (t := 198) kx_180_190 (by decide) (fun hc402 => ?_) (fun hc402 => absurd hc402 (by omega))
                    refine s_iconst (v := 4) kx_180_198 (by decide) ?_
                    refine s_istore kx_180_199 km_180_4 rfl ?_
                    refine s_iconst (v := 0) kx_180_201 (by decide) ?_
                    refine s_istore kx_180_202 km_180_5 rfl ?_
                    have key406 : ∀ n407 : Nat, ∀ (x1_403 x5_404 : Int), ∀ M405 : cM, Rng M405 → Fr fS_180_m M M405 → Fr fS_180_l204 M401 M405 → (0 ≤ x1_403) → (x1_403 ≤ 1600) → (0 ≤ x5_404) → (x5_404 ≤ 1600) → (x1_2 ≤ x1_403) → (x5_404 ≤ x1_403) → (2147483647 - x5_404).toNat < n407 → cP k_P xs Ln (d + 1) 180 204 [(0, rf 63), (1, (0, x1_403)), (2, (0, v246)), (3, (0, v247)), (4, (0, 4)), (5, (0, x5_404))] [] (T, M405) (qV T M fS_180_m (fun M1 => M 63 5 ≤ M1 63 4 ∧ M1 63 4 ≤ M1 63 5 ∧ (M1 63 3 = 0 ∨ M1 63 4 + 1 ≤ M1 63 5))) := by
                      intro n407
                      induction n407 with
                      | zero => intro x1_403 x5_404 M405 hI405 hFm405 fl405 i408 i409 i410 i411 i412 i413 hm414; exact absurd hm414 (Nat.not_lt_zero _)
                      | succ n407 ih415 =>
                        intro x1_403 x5_404 M405 hI405 hFm405 fl405 i408 i409 i410 i411 i412 i413 hm414
                        refine s_iload_n kx_180_204 rfl ?_
                        refine s_aload_n kx_180_205 rfl ?_
                        refine r_getK (k := 63) (f := 2) kx_180_206 kp_180_17 (tk_63 hT) kf_12_2 (fun _ => rfl) ((fl405 63 2 rfl).trans ((u401.2 63 2 (by omega)).trans ((u273.2 63 2 (by omega)).trans ((u272.2 63 2 (by omega)).trans ((u271.2 63 2 (by omega)).trans ((u270.2 63 2 (by omega)).trans ((fj269 63 2 rfl).trans ((u244.2 63 2 (by omega)).trans ((u243.2 63 2 (by omega)).trans ((u242.2 63 2 (by omega)).trans ((u241.2 63 2 (by omega)).trans v10e))))))))))) ?_
                        refine s_icmp_ge (t := 351) kx_180_209 (by decide) (fun hc416 => ?_) (fun hc416 => ?_)
                        · refine s_aload_n kx_180_351 rfl ?_
                          refine s_iload_n kx_180_352 rfl ?_
                          refine r_put (k := 63) (f := 5) kx_180_353 kp_180_26 (tk_63 hT) kf_12_5 rfl (by decide) (by decide) hI405 (ru_63_5 (by omega) (by omega)) (fun M417 hI417 u417 => ?_)
                          have hFm417 := hFm405.up u417 rfl
                          refine s_iload_n kx_180_356 rfl ?_
                          refine s_if_eq (t := 411) kx_180_357 (by decide) (fun hc418 => ?_) (fun hc418 => absurd hc418 (by omega))
                          refine s_iload_n kx_180_411 rfl ?_
                          refine s_if_eq (t := 452) kx_180_412 (by decide) (fun hc419 => ?_) (fun hc419 => absurd hc419 (by omega))
                          have hk420 : M417 63 3 = 2 := ((u417.2 63 3 (by omega)).trans ((fl405 63 3 rfl).trans u401.1))
                          have hk421 : M417 63 4 = x1_2 := ((u417.2 63 4 (by omega)).trans ((fl405 63 4 rfl).trans ((u401.2 63 4 (by omega)).trans ((u273.2 63 4 (by omega)).trans ((u272.2 63 4 (by omega)).trans ((u271.2 63 4 (by omega)).trans ((u270.2 63 4 (by omega)).trans ((fj269 63 4 rfl).trans ((u244.2 63 4 (by omega)).trans ((u243.2 63 4 (by omega)).trans ((u242.2 63 4 (by omega)).trans u241.1)))))))))))
                          have hk422 : M417 63 5 = x1_403 := u417.1
                          exact s_vret kx_180_452 kq_180 ⟨_, rfl, rfl, hI417, hFm417, (by omega)⟩
                        · refine s_iload_n kx_180_212 rfl ?_
                          refine s_if_eq (t := 231) kx_180_213 (by decide) (fun hc423 => ?_) (fun hc423 => absurd hc423 (by omega))
                          refine s_aload_n kx_180_231 rfl ?_
                          refine r_getR (k := 63) (f := 0) (k2 := 64) kx_180_232 kp_180_7 (tk_63 hT) kf_12_0 (by decide) (rq_63_0 hI405) ?_
                          refine s_iload_n kx_180_235 rfl ?_
                          refine r_ald (k := 64) kx_180_236 (tk_64 hT) ⟨by omega, by omega⟩ (rg_64 hI405) (fun v424 v424e v424a v424b => ?_)
                          refine s_callS2 (s1 := 1) (s2 := 0) (as := [(0, v424)]) (rest := []) kx_180_237 kp_180_271 rfl kcl_178 rfl rfl (by decide) (m_178 (d := d) (c := v424) hT hI405) (kF (fun v425 v425p => ?_))
                          refine s_if_eq (t := 351) kx_180_240 (by decide) (fun hc426 => ?_) (fun hc426 => ?_)
                          · replace v425p := v425p.resolve_left (by omega)
                            have hge : x1_2 + 1 ≤ x1_403 := if e : x1_403 = x1_2 then absurd (v424e) (by rw [e, ((fl405 64 _ rfl).trans ((u401.2 64 _ (by omega)).trans ((u273.2 64 _ (by omega)).trans ((u272.2 64 _ (by omega)).trans ((u271.2 64 _ (by omega)).trans ((u270.2 64 _ (by omega)).trans ((fj269 64 _ rfl).trans ((u244.2 64 _ (by omega)).trans ((u243.2 64 _ (by omega)).trans ((u242.2 64 _ (by omega)).trans ((u241.2 64 _ (by omega)).trans v238e)))))))))))]; omega) else (by omega)
                            refine s_aload_n kx_180_351 rfl ?_
                            refine s_iload_n kx_180_352 rfl ?_
                            refine r_put (k := 63) (f := 5) kx_180_353 kp_180_26 (tk_63 hT) kf_12_5 rfl (by decide) (by decide) hI405 (ru_63_5 (by omega) (by omega)) (fun M427 hI427 u427 => ?_)
                            have hFm427 := hFm405.up u427 rfl
                            refine s_iload_n kx_180_356 rfl ?_
                            refine s_if_eq (t := 411) kx_180_357 (by decide) (fun hc428 => ?_) (fun hc428 => absurd hc428 (by omega))
                            refine s_iload_n kx_180_411 rfl ?_
                            refine s_if_eq (t := 452) kx_180_412 (by decide) (fun hc429 => ?_) (fun hc429 => absurd hc429 (by omega))
                            have hk430 : M427 63 3 = 2 := ((u427.2 63 3 (by omega)).trans ((fl405 63 3 rfl).trans u401.1))
                            have hk431 : M427 63 4 = x1_2 := ((u427.2 63 4 (by omega)).trans ((fl405 63 4 rfl).trans ((u401.2 63 4 (by omega)).trans ((u273.2 63 4 (by omega)).trans ((u272.2 63 4 (by omega)).trans ((u271.2 63 4 (by omega)).trans ((u270.2 63 4 (by omega)).trans ((fj269 63 4 rfl).trans ((u244.2 63 4 (by omega)).trans ((u243.2 63 4 (by omega)).trans ((u242.2 63 4 (by omega)).trans u241.1)))))))))))
                            have hk432 : M427 63 5 = x1_403 := u427.1
                            exact s_vret kx_180_452 kq_180 ⟨_, rfl, rfl, hI427, hFm427, (by omega)⟩
                          · replace v425p := v425p.resolve_right (by omega)
                            refine s_iload kx_180_243 rfl ?_
                            refine s_iload kx_180_245 rfl ?_
                            have jn439 : ∀ M440 : cM, Rng M440 → Fr fS_180_j247 M405 M440 → Fr fS_180_m M M440 → Fr fS_180_l204 M401 M440 → cP k_P xs Ln (d + 1) 180 263 [(0, rf 63), (1, (0, x1_403)), (2, (0, v246)), (3, (0, v247)), (4, (0, 4)), (5, (0, x5_404))] [] (T, M440) (qV T M fS_180_m (fun M1 => M 63 5 ≤ M1 63 4 ∧ M1 63 4 ≤ M1 63 5 ∧ (M1 63 3 = 0 ∨ M1 63 4 + 1 ≤ M1 63 5))) := by
                              intro M440 hI440 fj440 hFm440 hFl204440
                              refine s_iload kx_180_263 rfl ?_
                              refine s_bipush (v := 8) kx_180_265 (by decide) ?_
                              have jn445 : cP k_P xs Ln (d + 1) 180 293 [(0, rf 63), (1, (0, x1_403)), (2, (0, v246)), (3, (0, v247)), (4, (0, 4)), (5, (0, x5_404))] [] (T, M440) (qV T M fS_180_m (fun M1 => M 63 5 ≤ M1 63 4 ∧ M1 63 4 ≤ M1 63 5 ∧ (M1 63 3 = 0 ∨ M1 63 4 + 1 ≤ M1 63 5))) := by
                                refine s_iload kx_180_293 rfl ?_
                                refine s_bipush (v := 8) kx_180_295 (by decide) ?_
                                have jn450 : ∀ M451 : cM, Rng M451 → Fr fS_180_j297 M440 M451 → Fr fS_180_m M M451 → Fr fS_180_l204 M401 M451 → cP k_P xs Ln (d + 1) 180 310 [(0, rf 63), (1, (0, x1_403)), (2, (0, v246)), (3, (0, v247)), (4, (0, 4)), (5, (0, x5_404))] [] (T, M451) (qV T M fS_180_m (fun M1 => M 63 5 ≤ M1 63 4 ∧ M1 63 4 ≤ M1 63 5 ∧ (M1 63 3 = 0 ∨ M1 63 4 + 1 ≤ M1 63 5))) := by
                                  intro M451 hI451 fj451 hFm451 hFl204451
                                  refine s_iload kx_180_310 rfl ?_
                                  refine s_iload kx_180_312 rfl ?_
                                  refine s_icmp_ge (t := 342) kx_180_314 (by decide) (fun hc452 => ?_) (fun hc452 => ?_)
                                  · refine r_iinc kx_180_342 rfl km_180_5 (by decide) ⟨by omega, by omega⟩ rfl ?_
                                    refine r_iinc kx_180_345 rfl km_180_1 (by decide) ⟨by omega, by omega⟩ rfl ?_
                                    refine s_goto (t := 204) kx_180_348 (by decide) ?_
                                    exact cP.wk (lS1 rfl (lS1 rfl (lS1 rfl (lS1 rfl (lS1 rfl (lS1 rfl lS0)))))) (ih415 (x1_403 + 1) (x5_404 + 1) M451 hI451 hFm451 hFl204451 (by omega) (by omega) (by omega) (by omega) (by omega) (by omega) (by omega))
                                  · refine s_iload_n kx_180_317 rfl ?_
                                    refine s_if_eq (t := 342) kx_180_318 (by decide) (fun hc453 => absurd hc453 (by omega)) (fun hc453 => ?_)
                                    refine s_aload_n kx_180_321 rfl ?_
                                    refine s_bipush (v := 10) kx_180_322 (by decide) ?_
                                    refine s_aload_n kx_180_324 rfl ?_
                                    refine r_getU (k := 63) (f := 6) kx_180_325 kp_180_29 (tk_63 hT) kf_12_6 (fun _ => rfl) (fun v454 v454e => ?_)
                                    refine r_imulR kx_180_328 (fun v455 v455a v455b => ?_)
                                    refine s_aload_n kx_180_329 rfl ?_
                                    refine r_getR (k := 63) (f := 0) (k2 := 64) kx_180_330 kp_180_7 (tk_63 hT) kf_12_0 (by decide) (rq_63_0 hI451) ?_
                                    refine s_iload_n kx_180_333 rfl ?_
                                    refine r_aldK (k := 64) kx_180_334 (tk_64 hT) ⟨by omega, by omega⟩ ((fj451 64 _ rfl).trans ((fj440 64 _ rfl).trans v424e)) ?_
                                    refine r_iaddR kx_180_335 (fun v456 v456a v456b => ?_)
                                    refine s_bipush (v := 48) kx_180_336 (by decide) ?_
                                    refine r_isubR kx_180_338 (fun v457 v457a v457b => ?_)
                                    refine r_put (k := 63) (f := 6) kx_180_339 kp_180_29 (tk_63 hT) kf_12_6 rfl (by decide) (by decide) hI451 ru_63_6 (fun M458 hI458 u458 => ?_)
                                    have hFm458 := hFm451.up u458 rfl
                                    have hFl204458 := hFl204451.up u458 rfl
                                    refine r_iinc kx_180_342 rfl km_180_5 (by decide) ⟨by omega, by omega⟩ rfl ?_
                                    refine r_iinc kx_180_345 rfl km_180_1 (by decide) ⟨by omega, by omega⟩ rfl ?_
                                    refine s_goto (t := 204) kx_180_348 (by decide) ?_
                                    exact cP.wk (lS1 rfl (lS1 rfl (lS1 rfl (lS1 rfl (lS1 rfl (lS1 rfl lS0)))))) (ih415 (x1_403 + 1) (x5_404 + 1) M458 hI458 hFm458 hFl204458 (by omega) (by omega) (by omega) (by omega) (by omega) (by omega) (by omega))
                                refine s_icmp_ne (t := 310) kx_180_297 (by decide) (fun hc446 => ?_) (fun hc446 => ?_)
                                · have hJ447 : Fr fS_180_j297 M440 M440 := Fr.refl
                                  exact cP.wk (lS1 rfl (lS1 rfl (lS1 rfl (lS1 rfl (lS1 rfl (lS1 rfl lS0)))))) (jn450 M440 hI440 hJ447 hFm440 hFl204440)
                                · have hJ448 : Fr fS_180_j297 M440 M440 := Fr.refl
                                  refine s_aload_n kx_180_300 rfl ?_
                                  refine s_aload_n kx_180_301 rfl ?_
                                  refine r_getR (k := 63) (f := 0) (k2 := 64) kx_180_302 kp_180_7 (tk_63 hT) kf_12_0 (by decide) (rq_63_0 hI440) ?_
                                  refine s_iload_n kx_180_305 rfl ?_
                                  refine r_aldK (k := 64) kx_180_306 (tk_64 hT) ⟨by omega, by omega⟩ ((fj440 64 _ rfl).trans v424e) ?_
                                  refine r_put (k := 63) (f := 8) kx_180_307 kp_180_36 (tk_63 hT) kf_12_8 rfl (by decide) (by decide) hI440 ru_63_8 (fun M449 hI449 u449 => ?_)
                                  have hFm449 := hFm440.up u449 rfl
                                  have hFl204449 := hFl204440.up u449 rfl
                                  have hFj297449 := hJ448.up u449 rfl
                                  exact cP.wk (lS1 rfl (lS1 rfl (lS1 rfl (lS1 rfl (lS1 rfl (lS1 rfl lS0)))))) (jn450 M449 hI449 hFj297449 hFm449 hFl204449)
                              refine s_icmp_ge (t := 293) kx_180_267 (by decide) (fun hc441 => ?_) (fun hc441 => ?_)
                              · have hJ442 : Fr fS_180_j267 M440 M440 := Fr.refl
                                exact cP.wk (lS1 rfl (lS1 rfl (lS1 rfl (lS1 rfl (lS1 rfl (lS1 rfl lS0)))))) (jn445)
                              · have hJ443 : Fr fS_180_j267 M440 M440 := Fr.refl
                                refine s_iload_n kx_180_270 rfl ?_
                                refine s_if_eq (t := 293) kx_180_271 (by decide) (fun hc444 => ?_) (fun hc444 => absurd hc444 (by omega))
                                exact cP.wk (lS1 rfl (lS1 rfl (lS1 rfl (lS1 rfl (lS1 rfl (lS1 rfl lS0)))))) (jn445)
                            refine s_icmp_ne (t := 263) kx_180_247 (by decide) (fun hc433 => ?_) (fun hc433 => ?_)
                            · have hJ434 : Fr fS_180_j247 M405 M405 := Fr.refl
                              exact cP.wk (lS1 rfl (lS1 rfl (lS1 rfl (lS1 rfl (lS1 rfl (lS1 rfl lS0)))))) (jn439 M405 hI405 hJ434 hFm405 fl405)
                            · have hJ435 : Fr fS_180_j247 M405 M405 := Fr.refl
                              refine s_aload_n kx_180_250 rfl ?_
                              refine r_getI (k := 63) (f := 13) kx_180_251 kp_180_51 (tk_63 hT) kf_12_13 (fun _ => rfl) (rg_63_13 hI405) (fun v436 v436e v436a v436b => ?_)
                              refine s_iconst (v := (-1)) kx_180_254 (by decide) ?_
                              refine s_icmp_ne (t := 263) kx_180_255 (by decide) (fun hc437 => ?_) (fun hc437 => ?_)
                              · exact cP.wk (lS1 rfl (lS1 rfl (lS1 rfl (lS1 rfl (lS1 rfl (lS1 rfl lS0)))))) (jn439 M405 hI405 hJ435 hFm405 fl405)
                              · refine s_aload_n kx_180_258 rfl ?_
                                refine s_iload_n kx_180_259 rfl ?_
                                refine r_put (k := 63) (f := 13) kx_180_260 kp_180_51 (tk_63 hT) kf_12_13 rfl (by decide) (by decide) hI405 (ru_63_13 (by omega) (by omega)) (fun M438 hI438 u438 => ?_)
                                have hFm438 := hFm405.up u438 rfl
                                have hFl204438 := fl405.up u438 rfl
                                have hFj247438 := hJ435.up u438 rfl
                                exact cP.wk (lS1 rfl (lS1 rfl (lS1 rfl (lS1 rfl (lS1 rfl (lS1 rfl lS0)))))) (jn439 M438 hI438 hFj247438 hFm438 hFl204438)
                    exact cP.wk (lS1 rfl (lS1 rfl (lS1 rfl (lS1 rfl (lS1 rfl (lS1 rfl lS0)))))) (key406 _ x1_2 0 M401 hI401 hFm401 Fr.refl (by omega) (by omega) (by omega) (by omega) (by omega) (by omega) (Nat.lt_succ_self _))
                  · refine s_aload_n kx_180_165 rfl ?_
                    refine s_aload_n kx_180_166 rfl ?_
                    refine r_getR (k := 63) (f := 0) (k2 := 64) kx_180_167 kp_180_7 (tk_63 hT) kf_12_0 (by decide) (rq_63_0 hI273) ?_
                    refine s_iload_n kx_180_170 rfl ?_
                    refine r_aldK (k := 64) kx_180_171 (tk_64 hT) ⟨by omega, by omega⟩ ((u273.2 64 _ (by omega)).trans ((u272.2 64 _ (by omega)).trans ((u271.2 64 _ (by omega)).trans ((u270.2 64 _ (by omega)).trans ((fj269 64 _ rfl).trans ((u244.2 64 _ (by omega)).trans ((u243.2 64 _ (by omega)).trans ((u242.2 64 _ (by omega)).trans ((u241.2 64 _ (by omega)).trans v238e))))))))) ?_
                    refine r_put (k := 63) (f := 6) kx_180_172 kp_180_29 (tk_63 hT) kf_12_6 rfl (by decide) (by decide) hI273 ru_63_6 (fun M459 hI459 u459 => ?_)
                    have hFm459 := hFm273.up u459 rfl
                    have hk460 : M459 63 3 = 3 := ((u459.2 63 3 (by omega)).trans ((u273.2 63 3 (by omega)).trans u272.1))
                    have hk461 : M459 63 4 = x1_2 := ((u459.2 63 4 (by omega)).trans ((u273.2 63 4 (by omega)).trans ((u272.2 63 4 (by omega)).trans ((u271.2 63 4 (by omega)).trans ((u270.2 63 4 (by omega)).trans ((fj269 63 4 rfl).trans ((u244.2 63 4 (by omega)).trans ((u243.2 63 4 (by omega)).trans ((u242.2 63 4 (by omega)).trans u241.1)))))))))
                    have hk462 : M459 63 5 = (x1_2 + 1) := ((u459.2 63 5 (by omega)).trans u273.1)
                    exact s_vret kx_180_175 kq_180 ⟨_, rfl, rfl, hI459, hFm459, (by omega)⟩
              refine s_if_ne (t := 98) kx_180_91 (by decide) (fun hc248 => ?_) (fun hc248 => ?_)
              · have hJ249 : Fr fS_180_j91 M244 M244 := Fr.refl
                replace v246p := v246p.resolve_right (by omega)
                refine s_iload_n kx_180_98 rfl ?_
                refine s_if_le (t := 135) kx_180_99 (by decide) (fun hc250 => ?_) (fun hc250 => ?_)
                · exact cP.wk (lS1 rfl (lS1 rfl (lS1 rfl (lS1 rfl lS0)))) (jn268 M244 hI244 hJ249 hFm244)
                · refine s_aload_n kx_180_102 rfl ?_
                  refine r_getR (k := 63) (f := 0) (k2 := 64) kx_180_103 kp_180_7 (tk_63 hT) kf_12_0 (by decide) (rq_63_0 hI244) ?_
                  refine s_iload_n kx_180_106 rfl ?_
                  refine s_iconst (v := 1) kx_180_107 (by decide) ?_
                  refine r_sub kx_180_108 ⟨by omega, by omega⟩ ?_
                  refine r_ald (k := 64) kx_180_109 (tk_64 hT) ⟨by omega, by omega⟩ (rg_64 hI244) (fun v251 v251e v251a v251b => ?_)
                  refine s_callS2 (s1 := 1) (s2 := 0) (as := [(0, v251)]) (rest := []) kx_180_110 kp_180_267 rfl kcl_177 rfl rfl (by decide) (m_177 (d := d) (c := v251) hT hI244) (kF (fun v252 v252p => ?_))
                  refine s_if_ne (t := 130) kx_180_113 (by decide) (fun hc253 => ?_) (fun hc253 => ?_)
                  · replace v252p := v252p.resolve_right (by omega)
                    refine s_aload_n kx_180_130 rfl ?_
                    refine s_iload_n kx_180_131 rfl ?_
                    refine r_put (k := 63) (f := 13) kx_180_132 kp_180_51 (tk_63 hT) kf_12_13 rfl (by decide) (by decide) hI244 (ru_63_13 (by omega) (by omega)) (fun M254 hI254 u254 => ?_)
                    have hFm254 := hFm244.up u254 rfl
                    have hFj91254 := hJ249.up u254 rfl
                    exact cP.wk (lS1 rfl (lS1 rfl (lS1 rfl (lS1 rfl lS0)))) (jn268 M254 hI254 hFj91254 hFm254)
                  · replace v252p := v252p.resolve_left (by omega)
                    refine s_aload_n kx_180_116 rfl ?_
                    refine r_getR (k := 63) (f := 0) (k2 := 64) kx_180_117 kp_180_7 (tk_63 hT) kf_12_0 (by decide) (rq_63_0 hI244) ?_
                    refine s_iload_n kx_180_120 rfl ?_
                    refine s_iconst (v := 1) kx_180_121 (by decide) ?_
                    refine r_sub kx_180_122 ⟨by omega, by omega⟩ ?_
                    refine r_aldK (k := 64) kx_180_123 (tk_64 hT) ⟨by omega, by omega⟩ v251e ?_
                    refine s_callS2 (s1 := 1) (s2 := 0) (as := [(0, v251)]) (rest := []) kx_180_124 kp_180_271 rfl kcl_178 rfl rfl (by decide) (m_178 (d := d) (c := v251) hT hI244) (kF (fun v255 v255p => ?_))
                    refine s_if_eq (t := 135) kx_180_127 (by decide) (fun hc256 => ?_) (fun hc256 => ?_)
                    · replace v255p := v255p.resolve_left (by omega)
                      exact cP.wk (lS1 rfl (lS1 rfl (lS1 rfl (lS1 rfl lS0)))) (jn268 M244 hI244 hJ249 hFm244)
                    · replace v255p := v255p.resolve_right (by omega)
                      refine s_aload_n kx_180_130 rfl ?_
                      refine s_iload_n kx_180_131 rfl ?_
                      refine r_put (k := 63) (f := 13) kx_180_132 kp_180_51 (tk_63 hT) kf_12_13 rfl (by decide) (by decide) hI244 (ru_63_13 (by omega) (by omega)) (fun M257 hI257 u257 => ?_)
                      have hFm257 := hFm244.up u257 rfl
                      have hFj91257 := hJ249.up u257 rfl
                      exact cP.wk (lS1 rfl (lS1 rfl (lS1 rfl (lS1 rfl lS0)))) (jn268 M257 hI257 hFj91257 hFm257)
              · have hJ258 : Fr fS_180_j91 M244 M244 := Fr.refl
                replace v246p := v246p.resolve_left (by omega)
                refine s_iload_n kx_180_94 rfl ?_
                refine s_if_eq (t := 135) kx_180_95 (by decide) (fun hc259 => ?_) (fun hc259 => ?_)
                · replace v247p := v247p.resolve_left (by omega)
                  exact cP.wk (lS1 rfl (lS1 rfl (lS1 rfl (lS1 rfl lS0)))) (jn268 M244 hI244 hJ258 hFm244)
                · replace v247p := v247p.resolve_right (by omega)
                  refine s_iload_n kx_180_98 rfl ?_
                  refine s_if_le (t := 135) kx_180_99 (by decide) (fun hc260 => ?_) (fun hc260 => ?_)
                  · exact cP.wk (lS1 rfl (lS1 rfl (lS1 rfl (lS1 rfl lS0)))) (jn268 M244 hI244 hJ258 hFm244)
                  · refine s_aload_n kx_180_102 rfl ?_
                    refine r_getR (k := 63) (f := 0) (k2 := 64) kx_180_103 kp_180_7 (tk_63 hT) kf_12_0 (by decide) (rq_63_0 hI244) ?_
                    refine s_iload_n kx_180_106 rfl ?_
                    refine s_iconst (v := 1) kx_180_107 (by decide) ?_
                    refine r_sub kx_180_108 ⟨by omega, by omega⟩ ?_
                    refine r_ald (k := 64) kx_180_109 (tk_64 hT) ⟨by omega, by omega⟩ (rg_64 hI244) (fun v261 v261e v261a v261b => ?_)
                    refine s_callS2 (s1 := 1) (s2 := 0) (as := [(0, v261)]) (rest := []) kx_180_110 kp_180_267 rfl kcl_177 rfl rfl (by decide) (m_177 (d := d) (c := v261) hT hI244) (kF (fun v262 v262p => ?_))
                    refine s_if_ne (t := 130) kx_180_113 (by decide) (fun hc263 => ?_) (fun hc263 => ?_)
                    · replace v262p := v262p.resolve_right (by omega)
                      refine s_aload_n kx_180_130 rfl ?_
                      refine s_iload_n kx_180_131 rfl ?_
                      refine r_put (k := 63) (f := 13) kx_180_132 kp_180_51 (tk_63 hT) kf_12_13 rfl (by decide) (by decide) hI244 (ru_63_13 (by omega) (by omega)) (fun M264 hI264 u264 => ?_)
                      have hFm264 := hFm244.up u264 rfl
                      have hFj91264 := hJ258.up u264 rfl
                      exact cP.wk (lS1 rfl (lS1 rfl (lS1 rfl (lS1 rfl lS0)))) (jn268 M264 hI264 hFj91264 hFm264)
                    · replace v262p := v262p.resolve_left (by omega)
                      refine s_aload_n kx_180_116 rfl ?_
                      refine r_getR (k := 63) (f := 0) (k2 := 64) kx_180_117 kp_180_7 (tk_63 hT) kf_12_0 (by decide) (rq_63_0 hI244) ?_
                      refine s_iload_n kx_180_120 rfl ?_
                      refine s_iconst (v := 1) kx_180_121 (by decide) ?_
                      refine r_sub kx_180_122 ⟨by omega, by omega⟩ ?_
                      refine r_aldK (k := 64) kx_180_123 (tk_64 hT) ⟨by omega, by omega⟩ v261e ?_
                      refine s_callS2 (s1 := 1) (s2 := 0) (as := [(0, v261)]) (rest := []) kx_180_124 kp_180_271 rfl kcl_178 rfl rfl (by decide) (m_178 (d := d) (c := v261) hT hI244) (kF (fun v265 v265p => ?_))
                      refine s_if_eq (t := 135) kx_180_127 (by decide) (fun hc266 => ?_) (fun hc266 => ?_)
                      · replace v265p := v265p.resolve_left (by omega)
                        exact cP.wk (lS1 rfl (lS1 rfl (lS1 rfl (lS1 rfl lS0)))) (jn268 M244 hI244 hJ258 hFm244)
                      · replace v265p := v265p.resolve_right (by omega)
                        refine s_aload_n kx_180_130 rfl ?_
                        refine s_iload_n kx_180_131 rfl ?_
                        refine r_put (k := 63) (f := 13) kx_180_132 kp_180_51 (tk_63 hT) kf_12_13 rfl (by decide) (by decide) hI244 (ru_63_13 (by omega) (by omega)) (fun M267 hI267 u267 => ?_)
                        have hFm267 := hFm244.up u267 rfl
                        have hFj91267 := hJ258.up u267 rfl
                        exact cP.wk (lS1 rfl (lS1 rfl (lS1 rfl (lS1 rfl lS0)))) (jn268 M267 hI267 hFj91267 hFm267)
            · have hk463 : M244 63 3 = 0 := ((u244.2 63 3 (by omega)).trans u243.1)
              have hk464 : M244 63 4 = x1_2 := ((u244.2 63 4 (by omega)).trans ((u243.2 63 4 (by omega)).trans ((u242.2 63 4 (by omega)).trans u241.1)))
              have hk465 : M244 63 5 = x1_2 := ((u244.2 63 5 (by omega)).trans ((u243.2 63 5 (by omega)).trans u242.1))
              exact s_vret kx_180_69 kq_180 ⟨_, rfl, rfl, hI244, hFm244, (by omega)⟩
          · refine r_iinc kx_180_35 rfl km_180_1 (by decide) ⟨by omega, by omega⟩ rfl ?_
            refine s_goto (t := 5) kx_180_38 (by decide) ?_
            exact cP.wk (lS1 rfl (lS1 rfl lS0)) (ih9 (x1_2 + 1) (by omega) (by omega) (by omega) (by omega))
  exact cP.wk (lS1 rfl (lS1 rfl lS0)) (key3 _ v1 (by omega) (by omega) (by omega) (Nat.lt_succ_self _))
def isS (M : cM) (c : Int) : Int := if M 63 3 = 3 ∧ M 63 6 = c then 1 else 0
theorem isS1 {M : cM} {c : Int} (h : M 63 3 = 3 ∧ M 63 6 = c) : isS M c = 1 := if_pos h
theorem isS0 {M : cM} {c : Int} (h : ¬ (M 63 3 = 3 ∧ M 63 6 = c)) : isS M c = 0 := if_neg h
theorem isS_fr {S : List (Nat × Nat)} {M M1 : cM} {c : Int} (g : Fr S M M1) (h3 : c_in S 63 3 = false) (h6 : c_in S 63 6 = false) : isS M1 c = isS M c := by
  unfold isS
  rw [g 63 3 h3, g 63 6 h6]
theorem kx_181_0 : x_code k_P 181 0 = some (.aload_n 0, 1) := by decide +kernel
theorem kx_181_1 : x_code k_P 181 1 = some (.getfield 20, 3) := by decide +kernel
theorem kp_181_20 : x_pool k_P 181 20 = (1, 12, 3) := by decide +kernel
theorem kx_181_4 : x_code k_P 181 4 = some (.iconst 3, 1) := by decide +kernel
theorem kx_181_5 : x_code k_P 181 5 = some (.if_icmp .ne 15, 3) := by decide +kernel
theorem kx_181_20 : x_code k_P 181 20 = some (.iconst 0, 1) := by decide +kernel
theorem kx_181_21 : x_code k_P 181 21 = some (.ireturn, 1) := by decide +kernel
theorem kq_181 : x_retk k_P 181 = 2 := by decide +kernel
theorem kx_181_8 : x_code k_P 181 8 = some (.aload_n 0, 1) := by decide +kernel
theorem kx_181_9 : x_code k_P 181 9 = some (.getfield 29, 3) := by decide +kernel
theorem kp_181_29 : x_pool k_P 181 29 = (1, 12, 6) := by decide +kernel
theorem kx_181_12 : x_code k_P 181 12 = some (.iload_n 1, 1) := by decide +kernel
theorem kx_181_13 : x_code k_P 181 13 = some (.if_icmp .ne 7, 3) := by decide +kernel
theorem kx_181_16 : x_code k_P 181 16 = some (.iconst 1, 1) := by decide +kernel
theorem kx_181_17 : x_code k_P 181 17 = some (.goto 4, 3) := by decide +kernel
theorem m_181 {xs : Nat → Int} {Ln d : Nat} {T : List cK} {M : cM} (hT : TT T) (hI : Rng M) {c : Int} : cC k_P xs Ln (d + 0) 181 [rf 63, (0, c)] (T, M) (qF T M 0 (fun v => (v = 1 ∧ M 63 3 = 3 ∧ isS M c = 1) ∨ (v = 0 ∧ isS M c = 0))) := by
  show cP k_P xs Ln (d + 0) 181 0 [(0, rf 63), (1, (0, c))] [] (T, M) _
  refine s_aload_n kx_181_0 rfl ?_
  refine r_getI (k := 63) (f := 3) kx_181_1 kp_181_20 (tk_63 hT) kf_12_3 (fun _ => rfl) (rg_63_3 hI) (fun v1 v1e v1a v1b => ?_)
  refine s_iconst (v := 3) kx_181_4 (by decide) ?_
  refine s_icmp_ne (t := 20) kx_181_5 (by decide) (fun hc2 => ?_) (fun hc2 => ?_)
  · refine s_iconst (v := 0) kx_181_20 (by decide) ?_
    exact s_iret kx_181_21 (Or.inr ⟨kq_181, by omega⟩) ⟨_, rfl, rfl, (Or.inr ⟨rfl, isS0 (by omega)⟩)⟩
  · refine s_aload_n kx_181_8 rfl ?_
    refine r_getU (k := 63) (f := 6) kx_181_9 kp_181_29 (tk_63 hT) kf_12_6 (fun _ => rfl) (fun v3 v3e => ?_)
    refine s_iload_n kx_181_12 rfl ?_
    refine s_icmp_ne (t := 20) kx_181_13 (by decide) (fun hc4 => ?_) (fun hc4 => ?_)
    · refine s_iconst (v := 0) kx_181_20 (by decide) ?_
      exact s_iret kx_181_21 (Or.inr ⟨kq_181, by omega⟩) ⟨_, rfl, rfl, (Or.inr ⟨rfl, isS0 (by omega)⟩)⟩
    · refine s_iconst (v := 1) kx_181_16 (by decide) ?_
      refine s_goto (t := 21) kx_181_17 (by decide) ?_
      exact s_iret kx_181_21 (Or.inr ⟨kq_181, by omega⟩) ⟨_, rfl, rfl, (Or.inl ⟨rfl, by omega, isS1 (by omega)⟩)⟩
theorem kx_182_0 : x_code k_P 182 0 = some (.aload_n 0, 1) := by decide +kernel
theorem kx_182_1 : x_code k_P 182 1 = some (.getfield 20, 3) := by decide +kernel
theorem kp_182_20 : x_pool k_P 182 20 = (1, 12, 3) := by decide +kernel
theorem kx_182_4 : x_code k_P 182 4 = some (.iconst 1, 1) := by decide +kernel
theorem kx_182_5 : x_code k_P 182 5 = some (.if_icmp .ne 16, 3) := by decide +kernel
theorem kx_182_21 : x_code k_P 182 21 = some (.iconst 0, 1) := by decide +kernel
theorem kx_182_22 : x_code k_P 182 22 = some (.ireturn, 1) := by decide +kernel
theorem kq_182 : x_retk k_P 182 = 2 := by decide +kernel
theorem kx_182_8 : x_code k_P 182 8 = some (.aload_n 0, 1) := by decide +kernel
theorem kx_182_9 : x_code k_P 182 9 = some (.getfield 32, 3) := by decide +kernel
theorem kp_182_32 : x_pool k_P 182 32 = (1, 12, 7) := by decide +kernel
theorem kx_182_12 : x_code k_P 182 12 = some (.lload_n 1, 1) := by decide +kernel
theorem kx_182_13 : x_code k_P 182 13 = some (.lcmp, 1) := by decide +kernel
theorem kx_182_14 : x_code k_P 182 14 = some (.ifCond .ne 7, 3) := by decide +kernel
theorem kx_182_17 : x_code k_P 182 17 = some (.iconst 1, 1) := by decide +kernel
theorem kx_182_18 : x_code k_P 182 18 = some (.goto 4, 3) := by decide +kernel
theorem m_182 {xs : Nat → Int} {Ln d : Nat} {T : List cK} {M : cM} (hT : TT T) (hI : Rng M) {w : Int} : cC k_P xs Ln (d + 0) 182 [rf 63, (1, w)] (T, M) (qF T M 0 (fun v => (v = 1 ∧ M 63 3 = 1) ∨ v = 0)) := by
  show cP k_P xs Ln (d + 0) 182 0 [(0, rf 63), (1, (1, w))] [] (T, M) _
  refine s_aload_n kx_182_0 rfl ?_
  refine r_getI (k := 63) (f := 3) kx_182_1 kp_182_20 (tk_63 hT) kf_12_3 (fun _ => rfl) (rg_63_3 hI) (fun v1 v1e v1a v1b => ?_)
  refine s_iconst (v := 1) kx_182_4 (by decide) ?_
  refine s_icmp_ne (t := 21) kx_182_5 (by decide) (fun hc2 => ?_) (fun hc2 => ?_)
  · refine s_iconst (v := 0) kx_182_21 (by decide) ?_
    exact s_iret kx_182_22 (Or.inr ⟨kq_182, by omega⟩) ⟨_, rfl, rfl, (by omega)⟩
  · refine s_aload_n kx_182_8 rfl ?_
    refine r_getU (k := 63) (f := 7) kx_182_9 kp_182_32 (tk_63 hT) kf_12_7 (fun _ => rfl) (fun v3 v3e => ?_)
    refine s_lload_n kx_182_12 rfl ?_
    refine r_lcmpR kx_182_13 (fun v4 => ?_)
    refine s_if_ne (t := 21) kx_182_14 (by decide) (fun hc5 => ?_) (fun hc5 => ?_)
    · refine s_iconst (v := 0) kx_182_21 (by decide) ?_
      exact s_iret kx_182_22 (Or.inr ⟨kq_182, by omega⟩) ⟨_, rfl, rfl, (by omega)⟩
    · refine s_iconst (v := 1) kx_182_17 (by decide) ?_
      refine s_goto (t := 22) kx_182_18 (by decide) ?_
      exact s_iret kx_182_22 (Or.inr ⟨kq_182, by omega⟩) ⟨_, rfl, rfl, (by omega)⟩
theorem kx_183_0 : x_code k_P 183 0 = some (.aload_n 0, 1) := by decide +kernel
theorem kx_183_1 : x_code k_P 183 1 = some (.invokevirtual 280, 3) := by decide +kernel
theorem kp_183_280 : x_pool k_P 183 280 = (2, 179, 0) := by decide +kernel
theorem ki_179 : x_mci k_P 179 = 12 := by decide +kernel
theorem kcl_179 : x_maxL k_P 179 ≤ 60 ∧ 1 ≤ x_maxL k_P 179 := by decide +kernel
theorem kx_183_4 : x_code k_P 183 4 = some (.aload_n 0, 1) := by decide +kernel
theorem kx_183_5 : x_code k_P 183 5 = some (.iload_n 1, 1) := by decide +kernel
theorem kx_183_6 : x_code k_P 183 6 = some (.invokevirtual 283, 3) := by decide +kernel
theorem kp_183_283 : x_pool k_P 183 283 = (2, 181, 1) := by decide +kernel
theorem ki_181 : x_mci k_P 181 = 12 := by decide +kernel
theorem kcl_181 : x_maxL k_P 181 ≤ 60 ∧ 2 ≤ x_maxL k_P 181 := by decide +kernel
theorem kx_183_9 : x_code k_P 183 9 = some (.ifCond .ne 12, 3) := by decide +kernel
theorem kx_183_21 : x_code k_P 183 21 = some (.aload_n 0, 1) := by decide +kernel
theorem kx_183_22 : x_code k_P 183 22 = some (.getfield 39, 3) := by decide +kernel
theorem kp_183_39 : x_pool k_P 183 39 = (1, 12, 9) := by decide +kernel
theorem kx_183_25 : x_code k_P 183 25 = some (.ifCond .ne 7, 3) := by decide +kernel
theorem kx_183_32 : x_code k_P 183 32 = some (.return_, 1) := by decide +kernel
theorem kq_183 : x_retk k_P 183 = 0 := by decide +kernel
theorem kx_183_28 : x_code k_P 183 28 = some (.aload_n 0, 1) := by decide +kernel
theorem kx_183_29 : x_code k_P 183 29 = some (.invokevirtual 286, 3) := by decide +kernel
theorem kp_183_286 : x_pool k_P 183 286 = (2, 180, 0) := by decide +kernel
theorem ki_180 : x_mci k_P 180 = 12 := by decide +kernel
theorem kcl_180 : x_maxL k_P 180 ≤ 60 ∧ 1 ≤ x_maxL k_P 180 := by decide +kernel
theorem kx_183_12 : x_code k_P 183 12 = some (.aload_n 0, 1) := by decide +kernel
theorem kx_183_13 : x_code k_P 183 13 = some (.iconst 1, 1) := by decide +kernel
theorem kx_183_14 : x_code k_P 183 14 = some (.aload_n 0, 1) := by decide +kernel
theorem kx_183_15 : x_code k_P 183 15 = some (.getfield 23, 3) := by decide +kernel
theorem kp_183_23 : x_pool k_P 183 23 = (1, 12, 4) := by decide +kernel
theorem kx_183_18 : x_code k_P 183 18 = some (.invokevirtual 263, 3) := by decide +kernel
theorem kp_183_263 : x_pool k_P 183 263 = (2, 176, 2) := by decide +kernel
def fS_183_m : List (Nat × Nat) := [(63, 10), (63, 13), (63, 3), (63, 4), (63, 5), (63, 6), (63, 7), (63, 8), (63, 9)]
theorem m_183 {xs : Nat → Int} {Ln d : Nat} {T : List cK} {M : cM} (hT : TT T) (hI : Rng M) {c : Int} (hX : LXp M) : cC k_P xs Ln (d + 2) 183 [rf 63, (0, c)] (T, M) (qV T M fS_183_m (fun M1 => LXp M1 ∧ M 63 4 ≤ M1 63 4 ∧ M 63 9 ≤ M1 63 9 ∧ (PRd M M1))) := by
  show cP k_P xs Ln (d + 2) 183 0 [(0, rf 63), (1, (0, c))] [] (T, M) _
  have hFm : Fr fS_183_m M M := Fr.refl
  have h639 := rg_63_9 hI
  have ⟨lx1, lx2⟩ := hX
  refine s_aload_n kx_183_0 rfl ?_
  refine s_callV2 (k := 63) (s1 := 1) (s2 := 0) (as := []) (rest := []) kx_183_1 kp_183_280 (Or.inl rfl) rfl (tk_63 hT) ki_179 kcl_179 rfl rfl (by decide) (m_179 (d := d) hT hI) (kV (fun M2 hI2 fr2 v1p => ?_))
  have hFm2 := hFm.call fr2 rfl
  have tr3 := (fr2 63 3 rfl)
  have tr4 := (fr2 63 4 rfl)
  have tr5 := (fr2 63 5 rfl)
  have tr6 := rg_63_9 hI2
  refine s_aload_n kx_183_4 rfl ?_
  refine s_iload_n kx_183_5 rfl ?_
  refine s_callV2 (k := 63) (s1 := 2) (s2 := 0) (as := [(0, c)]) (rest := []) kx_183_6 kp_183_283 (Or.inl rfl) rfl (tk_63 hT) ki_181 kcl_181 rfl rfl (by decide) (m_181 (d := d + 1) (c := c) hT hI2) (kF (fun v7 v7p => ?_))
  refine s_if_ne (t := 21) kx_183_9 (by decide) (fun hc8 => ?_) (fun hc8 => ?_)
  · replace v7p := v7p.resolve_right (by omega)
    refine s_aload_n kx_183_21 rfl ?_
    refine r_getI (k := 63) (f := 9) kx_183_22 kp_183_39 (tk_63 hT) kf_12_9 (fun _ => rfl) (rg_63_9 hI2) (fun v9 v9e v9a v9b => ?_)
    refine s_if_ne (t := 32) kx_183_25 (by decide) (fun hc10 => ?_) (fun hc10 => ?_)
    · have hk11 : M2 63 9 = v9 := v9e
      exact s_vret kx_183_32 kq_183 ⟨_, rfl, rfl, hI2, hFm2, ⟨(LXp.fr hX fr2 rfl), (by omega), (by omega), (by unfold PRd; omega)⟩⟩
    · refine s_aload_n kx_183_28 rfl ?_
      refine s_callV2 (k := 63) (s1 := 1) (s2 := 0) (as := []) (rest := []) kx_183_29 kp_183_286 (Or.inl rfl) rfl (tk_63 hT) ki_180 kcl_180 rfl rfl (by decide) (m_180 (d := d) hT hI2) (kV (fun M13 hI13 fr13 v12p => ?_))
      have hFm13 := hFm2.call fr13 rfl
      have tr14 := (fr13 63 9 rfl)
      have tr15 := rg_63_9 hI13
      have hk16 : M13 63 9 = v9 := ((fr13 63 9 rfl).trans v9e)
      exact s_vret kx_183_32 kq_183 ⟨_, rfl, rfl, hI13, hFm13, ⟨(show LXp M13 from v12p.2), (by omega), (by omega), (by unfold PRd; omega)⟩⟩
  · replace v7p := v7p.resolve_left (by omega)
    refine s_aload_n kx_183_12 rfl ?_
    refine s_iconst (v := 1) kx_183_13 (by decide) ?_
    refine s_aload_n kx_183_14 rfl ?_
    refine r_getI (k := 63) (f := 4) kx_183_15 kp_183_23 (tk_63 hT) kf_12_4 (fun _ => rfl) (rg_63_4 hI2) (fun v17 v17e v17a v17b => ?_)
    have v17z : M 63 4 = v17 := ((fr2 63 4 rfl)).symm.trans v17e
    refine s_callV2 (k := 63) (s1 := 3) (s2 := 0) (as := [(0, v17), (0, 1)]) (rest := []) kx_183_18 kp_183_263 (Or.inl rfl) rfl (tk_63 hT) ki_176 kcl_176 rfl rfl (by decide) (m_176 (d := d + 1) (kind := 1) (place := v17) hT hI2 (by omega)) (kV (fun M19 hI19 fr19 v18p => ?_))
    have hFm19 := hFm2.call fr19 rfl
    have tr20 := (fr19 63 3 rfl)
    have tr21 := (fr19 63 4 rfl)
    have tr22 := (fr19 63 5 rfl)
    have tr23 := rg_63_9 hI19
    refine s_aload_n kx_183_21 rfl ?_
    refine r_getI (k := 63) (f := 9) kx_183_22 kp_183_39 (tk_63 hT) kf_12_9 (fun _ => rfl) (rg_63_9 hI19) (fun v24 v24e v24a v24b => ?_)
    refine s_if_ne (t := 32) kx_183_25 (by decide) (fun hc25 => ?_) (fun hc25 => ?_)
    · have hk26 : M19 63 4 = v17 := ((fr19 63 4 rfl).trans v17e)
      have hk27 : M19 63 9 = v24 := v24e
      exact s_vret kx_183_32 kq_183 ⟨_, rfl, rfl, hI19, hFm19, ⟨(LXp.fr (LXp.fr hX fr2 rfl) fr19 rfl), (by omega), (by omega), (by unfold PRd; omega)⟩⟩
    · refine s_aload_n kx_183_28 rfl ?_
      refine s_callV2 (k := 63) (s1 := 1) (s2 := 0) (as := []) (rest := []) kx_183_29 kp_183_286 (Or.inl rfl) rfl (tk_63 hT) ki_180 kcl_180 rfl rfl (by decide) (m_180 (d := d) hT hI19) (kV (fun M29 hI29 fr29 v28p => ?_))
      have hFm29 := hFm19.call fr29 rfl
      have tr30 := (fr29 63 9 rfl)
      have tr31 := rg_63_9 hI29
      have hk32 : M29 63 9 = v24 := ((fr29 63 9 rfl).trans v24e)
      exact s_vret kx_183_32 kq_183 ⟨_, rfl, rfl, hI29, hFm29, ⟨(show LXp M29 from v28p.2), (by omega), (by omega), (by unfold PRd; omega)⟩⟩
theorem kx_200_0 : x_code k_P 200 0 = some (.aload_n 0, 1) := by decide +kernel
theorem kx_200_1 : x_code k_P 200 1 = some (.invokevirtual 280, 3) := by decide +kernel
theorem kp_200_280 : x_pool k_P 200 280 = (2, 179, 0) := by decide +kernel
theorem kx_200_4 : x_code k_P 200 4 = some (.aload_n 0, 1) := by decide +kernel
theorem kx_200_5 : x_code k_P 200 5 = some (.getfield 39, 3) := by decide +kernel
theorem kp_200_39 : x_pool k_P 200 39 = (1, 12, 9) := by decide +kernel
theorem kx_200_8 : x_code k_P 200 8 = some (.ifCond .le 4, 3) := by decide +kernel
theorem kx_200_12 : x_code k_P 200 12 = some (.aload_n 0, 1) := by decide +kernel
theorem kx_200_13 : x_code k_P 200 13 = some (.lload_n 1, 1) := by decide +kernel
theorem kx_200_14 : x_code k_P 200 14 = some (.invokevirtual 361, 3) := by decide +kernel
theorem kp_200_361 : x_pool k_P 200 361 = (2, 182, 1) := by decide +kernel
theorem ki_182 : x_mci k_P 182 = 12 := by decide +kernel
theorem kcl_182 : x_maxL k_P 182 ≤ 60 ∧ 3 ≤ x_maxL k_P 182 := by decide +kernel
theorem kx_200_17 : x_code k_P 200 17 = some (.ifCond .ne 12, 3) := by decide +kernel
theorem kx_200_29 : x_code k_P 200 29 = some (.aload_n 0, 1) := by decide +kernel
theorem kx_200_30 : x_code k_P 200 30 = some (.getfield 39, 3) := by decide +kernel
theorem kx_200_33 : x_code k_P 200 33 = some (.ifCond .ne 7, 3) := by decide +kernel
theorem kx_200_36 : x_code k_P 200 36 = some (.aload_n 0, 1) := by decide +kernel
theorem kx_200_37 : x_code k_P 200 37 = some (.invokevirtual 286, 3) := by decide +kernel
theorem kp_200_286 : x_pool k_P 200 286 = (2, 180, 0) := by decide +kernel
theorem kx_200_40 : x_code k_P 200 40 = some (.return_, 1) := by decide +kernel
theorem kq_200 : x_retk k_P 200 = 0 := by decide +kernel
theorem kx_200_20 : x_code k_P 200 20 = some (.aload_n 0, 1) := by decide +kernel
theorem kx_200_21 : x_code k_P 200 21 = some (.iconst 1, 1) := by decide +kernel
theorem kx_200_22 : x_code k_P 200 22 = some (.aload_n 0, 1) := by decide +kernel
theorem kx_200_23 : x_code k_P 200 23 = some (.getfield 23, 3) := by decide +kernel
theorem kp_200_23 : x_pool k_P 200 23 = (1, 12, 4) := by decide +kernel
theorem kx_200_26 : x_code k_P 200 26 = some (.invokevirtual 263, 3) := by decide +kernel
theorem kp_200_263 : x_pool k_P 200 263 = (2, 176, 2) := by decide +kernel
theorem kx_200_11 : x_code k_P 200 11 = some (.return_, 1) := by decide +kernel
def fS_200_m : List (Nat × Nat) := [(63, 10), (63, 13), (63, 3), (63, 4), (63, 5), (63, 6), (63, 7), (63, 8), (63, 9)]
theorem m_200 {xs : Nat → Int} {Ln d : Nat} {T : List cK} {M : cM} (hT : TT T) (hI : Rng M) {w : Int} (hX : LXp M) : cC k_P xs Ln (d + 2) 200 [rf 63, (1, w)] (T, M) (qV T M fS_200_m (fun M1 => LXp M1 ∧ M 63 4 ≤ M1 63 4 ∧ M 63 9 ≤ M1 63 9 ∧ (PRd M M1))) := by
  show cP k_P xs Ln (d + 2) 200 0 [(0, rf 63), (1, (1, w))] [] (T, M) _
  have hFm : Fr fS_200_m M M := Fr.refl
  have h639 := rg_63_9 hI
  have ⟨lx1, lx2⟩ := hX
  refine s_aload_n kx_200_0 rfl ?_
  refine s_callV2 (k := 63) (s1 := 1) (s2 := 0) (as := []) (rest := []) kx_200_1 kp_200_280 (Or.inl rfl) rfl (tk_63 hT) ki_179 kcl_179 rfl rfl (by decide) (m_179 (d := d) hT hI) (kV (fun M2 hI2 fr2 v1p => ?_))
  have hFm2 := hFm.call fr2 rfl
  have tr3 := (fr2 63 3 rfl)
  have tr4 := (fr2 63 4 rfl)
  have tr5 := (fr2 63 5 rfl)
  have tr6 := rg_63_9 hI2
  refine s_aload_n kx_200_4 rfl ?_
  refine r_getI (k := 63) (f := 9) kx_200_5 kp_200_39 (tk_63 hT) kf_12_9 (fun _ => rfl) (rg_63_9 hI2) (fun v7 v7e v7a v7b => ?_)
  refine s_if_le (t := 12) kx_200_8 (by decide) (fun hc8 => ?_) (fun hc8 => ?_)
  · refine s_aload_n kx_200_12 rfl ?_
    refine s_lload_n kx_200_13 rfl ?_
    refine s_callV2 (k := 63) (s1 := 3) (s2 := 0) (as := [(1, w)]) (rest := []) kx_200_14 kp_200_361 (Or.inl rfl) rfl (tk_63 hT) ki_182 kcl_182 rfl rfl (by decide) (m_182 (d := d + 1) (w := w) hT hI2) (kF (fun v9 v9p => ?_))
    refine s_if_ne (t := 29) kx_200_17 (by decide) (fun hc10 => ?_) (fun hc10 => ?_)
    · replace v9p := v9p.resolve_right (by omega)
      refine s_aload_n kx_200_29 rfl ?_
      refine r_getK (k := 63) (f := 9) kx_200_30 kp_200_39 (tk_63 hT) kf_12_9 (fun _ => rfl) v7e ?_
      refine s_if_ne (t := 40) kx_200_33 (by decide) (fun hc11 => absurd hc11 (by omega)) (fun hc11 => ?_)
      refine s_aload_n kx_200_36 rfl ?_
      refine s_callV2 (k := 63) (s1 := 1) (s2 := 0) (as := []) (rest := []) kx_200_37 kp_200_286 (Or.inl rfl) rfl (tk_63 hT) ki_180 kcl_180 rfl rfl (by decide) (m_180 (d := d) hT hI2) (kV (fun M13 hI13 fr13 v12p => ?_))
      have hFm13 := hFm2.call fr13 rfl
      have tr14 := (fr13 63 9 rfl)
      have tr15 := rg_63_9 hI13
      have hk16 : M13 63 9 = v7 := ((fr13 63 9 rfl).trans v7e)
      exact s_vret kx_200_40 kq_200 ⟨_, rfl, rfl, hI13, hFm13, ⟨(show LXp M13 from v12p.2), (by omega), (by omega), (by unfold PRd; omega)⟩⟩
    · replace v9p := v9p.resolve_left (by omega)
      refine s_aload_n kx_200_20 rfl ?_
      refine s_iconst (v := 1) kx_200_21 (by decide) ?_
      refine s_aload_n kx_200_22 rfl ?_
      refine r_getI (k := 63) (f := 4) kx_200_23 kp_200_23 (tk_63 hT) kf_12_4 (fun _ => rfl) (rg_63_4 hI2) (fun v17 v17e v17a v17b => ?_)
      have v17z : M 63 4 = v17 := ((fr2 63 4 rfl)).symm.trans v17e
      refine s_callV2 (k := 63) (s1 := 3) (s2 := 0) (as := [(0, v17), (0, 1)]) (rest := []) kx_200_26 kp_200_263 (Or.inl rfl) rfl (tk_63 hT) ki_176 kcl_176 rfl rfl (by decide) (m_176 (d := d + 1) (kind := 1) (place := v17) hT hI2 (by omega)) (kV (fun M19 hI19 fr19 v18p => ?_))
      have hFm19 := hFm2.call fr19 rfl
      have tr20 := (fr19 63 3 rfl)
      have tr21 := (fr19 63 4 rfl)
      have tr22 := (fr19 63 5 rfl)
      have tr23 := rg_63_9 hI19
      refine s_aload_n kx_200_29 rfl ?_
      refine r_getI (k := 63) (f := 9) kx_200_30 kp_200_39 (tk_63 hT) kf_12_9 (fun _ => rfl) (rg_63_9 hI19) (fun v24 v24e v24a v24b => ?_)
      refine s_if_ne (t := 40) kx_200_33 (by decide) (fun hc25 => ?_) (fun hc25 => ?_)
      · have hk26 : M19 63 4 = v17 := ((fr19 63 4 rfl).trans v17e)
        have hk27 : M19 63 9 = v24 := v24e
        exact s_vret kx_200_40 kq_200 ⟨_, rfl, rfl, hI19, hFm19, ⟨(LXp.fr (LXp.fr hX fr2 rfl) fr19 rfl), (by omega), (by omega), (by unfold PRd; omega)⟩⟩
      · refine s_aload_n kx_200_36 rfl ?_
        refine s_callV2 (k := 63) (s1 := 1) (s2 := 0) (as := []) (rest := []) kx_200_37 kp_200_286 (Or.inl rfl) rfl (tk_63 hT) ki_180 kcl_180 rfl rfl (by decide) (m_180 (d := d) hT hI19) (kV (fun M29 hI29 fr29 v28p => ?_))
        have hFm29 := hFm19.call fr29 rfl
        have tr30 := (fr29 63 9 rfl)
        have tr31 := rg_63_9 hI29
        have hk32 : M29 63 9 = v24 := ((fr29 63 9 rfl).trans v24e)
        exact s_vret kx_200_40 kq_200 ⟨_, rfl, rfl, hI29, hFm29, ⟨(show LXp M29 from v28p.2), (by omega), (by omega), (by unfold PRd; omega)⟩⟩
  · have hk33 : M2 63 9 = v7 := v7e
    exact s_vret kx_200_11 kq_200 ⟨_, rfl, rfl, hI2, hFm2, ⟨(LXp.fr hX fr2 rfl), (by omega), (by omega), (by unfold PRd; omega)⟩⟩
theorem kx_187_0 : x_code k_P 187 0 = some (.iconst 0, 1) := by decide +kernel
theorem kx_187_1 : x_code k_P 187 1 = some (.istore 4, 2) := by decide +kernel
theorem km_187_4 : 4 < x_maxL k_P 187 := by decide +kernel
theorem kx_187_3 : x_code k_P 187 3 = some (.iload 4, 2) := by decide +kernel
theorem kx_187_5 : x_code k_P 187 5 = some (.aload_n 0, 1) := by decide +kernel
theorem kx_187_6 : x_code k_P 187 6 = some (.aload_n 0, 1) := by decide +kernel
theorem kx_187_7 : x_code k_P 187 7 = some (.getfield 121, 3) := by decide +kernel
theorem kp_187_121 : x_pool k_P 187 121 = (1, 12, 36) := by decide +kernel
theorem kf_12_36 : (x_cls k_P 12)[36]? = some 0 := by decide +kernel
theorem kx_187_10 : x_code k_P 187 10 = some (.iload_n 1, 1) := by decide +kernel
theorem kx_187_11 : x_code k_P 187 11 = some (.invokevirtual 337, 3) := by decide +kernel
theorem kp_187_337 : x_pool k_P 187 337 = (2, 185, 2) := by decide +kernel
theorem kx_187_14 : x_code k_P 187 14 = some (.if_icmp .ge 28, 3) := by decide +kernel
theorem kx_187_42 : x_code k_P 187 42 = some (.iconst (-1), 1) := by decide +kernel
theorem kx_187_43 : x_code k_P 187 43 = some (.ireturn, 1) := by decide +kernel
theorem kq_187 : x_retk k_P 187 = 1 := by decide +kernel
theorem kx_187_17 : x_code k_P 187 17 = some (.aload_n 0, 1) := by decide +kernel
theorem kx_187_18 : x_code k_P 187 18 = some (.aload_n 0, 1) := by decide +kernel
theorem kx_187_19 : x_code k_P 187 19 = some (.getfield 121, 3) := by decide +kernel
theorem kx_187_22 : x_code k_P 187 22 = some (.iload_n 1, 1) := by decide +kernel
theorem kx_187_23 : x_code k_P 187 23 = some (.iload 4, 2) := by decide +kernel
theorem kx_187_25 : x_code k_P 187 25 = some (.invokevirtual 341, 3) := by decide +kernel
theorem kp_187_341 : x_pool k_P 187 341 = (2, 186, 3) := by decide +kernel
theorem kx_187_28 : x_code k_P 187 28 = some (.lload_n 2, 1) := by decide +kernel
theorem kx_187_29 : x_code k_P 187 29 = some (.lcmp, 1) := by decide +kernel
theorem kx_187_30 : x_code k_P 187 30 = some (.ifCond .ne 6, 3) := by decide +kernel
theorem kx_187_36 : x_code k_P 187 36 = some (.iinc 4 1, 3) := by decide +kernel
theorem kx_187_39 : x_code k_P 187 39 = some (.goto (-36), 3) := by decide +kernel
theorem kx_187_33 : x_code k_P 187 33 = some (.iload 4, 2) := by decide +kernel
theorem kx_187_35 : x_code k_P 187 35 = some (.ireturn, 1) := by decide +kernel
theorem m_187 {xs : Nat → Int} {Ln d : Nat} {T : List cK} {M : cM} (hT : TT T) (hI : Rng M) {kind w : Int} : cC k_P xs Ln (d + 1) 187 [rf 63, (0, kind), (1, w)] (T, M) (qF T M 0 (fun v => (-1) ≤ v ∧ v ≤ 7)) := by
  show cP k_P xs Ln (d + 1) 187 0 [(0, rf 63), (1, (0, kind)), (2, (1, w))] [] (T, M) _
  refine s_iconst (v := 0) kx_187_0 (by decide) ?_
  refine s_istore kx_187_1 km_187_4 rfl ?_
  have key2 : ∀ n3 : Nat, ∀ (x4_1 : Int), (0 ≤ x4_1) → (x4_1 ≤ 8) → (2147483647 - x4_1).toNat < n3 → cP k_P xs Ln (d + 1) 187 3 [(0, rf 63), (1, (0, kind)), (2, (1, w)), (4, (0, x4_1))] [] (T, M) (qF T M 0 (fun v => (-1) ≤ v ∧ v ≤ 7)) := by
    intro n3
    induction n3 with
    | zero => intro x4_1 i4 i5 hm6; exact absurd hm6 (Nat.not_lt_zero _)
    | succ n3 ih7 =>
      intro x4_1 i4 i5 hm6
      refine s_iload kx_187_3 rfl ?_
      refine s_aload_n kx_187_5 rfl ?_
      refine s_aload_n kx_187_6 rfl ?_
      refine r_getI (k := 63) (f := 36) kx_187_7 kp_187_121 (tk_63 hT) kf_12_36 (fun _ => rfl) (rg_63_36 hI) (fun v8 v8e v8a v8b => ?_)
      refine s_iload_n kx_187_10 rfl ?_
      refine s_callV2 (k := 63) (s1 := 3) (s2 := 1) (as := [(0, kind), (0, v8)]) (rest := [(0, x4_1)]) kx_187_11 kp_187_337 (Or.inl rfl) rfl (tk_63 hT) ki_185 kcl_185 rfl rfl (by decide) (m_185 (d := d) (b := v8) (kind := kind) hT hI (by omega)) (kF (fun v9 v9p => ?_))
      refine s_icmp_ge (t := 42) kx_187_14 (by decide) (fun hc10 => ?_) (fun hc10 => ?_)
      · refine s_iconst (v := (-1)) kx_187_42 (by decide) ?_
        exact s_iret kx_187_43 (Or.inl kq_187) ⟨_, rfl, rfl, (by omega)⟩
      · refine s_aload_n kx_187_17 rfl ?_
        refine s_aload_n kx_187_18 rfl ?_
        refine r_getK (k := 63) (f := 36) kx_187_19 kp_187_121 (tk_63 hT) kf_12_36 (fun _ => rfl) v8e ?_
        refine s_iload_n kx_187_22 rfl ?_
        refine s_iload kx_187_23 rfl ?_
        refine s_callV2 (k := 63) (s1 := 4) (s2 := 0) (as := [(0, x4_1), (0, kind), (0, v8)]) (rest := []) kx_187_25 kp_187_341 (Or.inl rfl) rfl (tk_63 hT) ki_186 kcl_186 rfl rfl (by decide) (m_186 (d := d) (b := v8) (kind := kind) (k := x4_1) hT hI (by omega) (by omega)) (kF (fun v11 v11p => ?_))
        refine s_lload_n kx_187_28 rfl ?_
        refine r_lcmpR kx_187_29 (fun v12 => ?_)
        refine s_if_ne (t := 36) kx_187_30 (by decide) (fun hc13 => ?_) (fun hc13 => ?_)
        · refine r_iinc kx_187_36 rfl km_187_4 (by decide) ⟨by omega, by omega⟩ rfl ?_
          refine s_goto (t := 3) kx_187_39 (by decide) ?_
          exact cP.wk (lS1 rfl (lS1 rfl (lS1 rfl (lS1 rfl lS0)))) (ih7 (x4_1 + 1) (by omega) (by omega) (by omega))
        · refine s_iload kx_187_33 rfl ?_
          exact s_iret kx_187_35 (Or.inl kq_187) ⟨_, rfl, rfl, (by omega)⟩
  exact cP.wk (lS1 rfl (lS1 rfl (lS1 rfl (lS1 rfl lS0)))) (key2 _ 0 (by omega) (by omega) (Nat.lt_succ_self _))
theorem kx_188_0 : x_code k_P 188 0 = some (.aload_n 0, 1) := by decide +kernel
theorem kx_188_1 : x_code k_P 188 1 = some (.invokevirtual 280, 3) := by decide +kernel
theorem kp_188_280 : x_pool k_P 188 280 = (2, 179, 0) := by decide +kernel
theorem kx_188_4 : x_code k_P 188 4 = some (.aload_n 0, 1) := by decide +kernel
theorem kx_188_5 : x_code k_P 188 5 = some (.getfield 39, 3) := by decide +kernel
theorem kp_188_39 : x_pool k_P 188 39 = (1, 12, 9) := by decide +kernel
theorem kx_188_8 : x_code k_P 188 8 = some (.ifCond .le 5, 3) := by decide +kernel
theorem kx_188_13 : x_code k_P 188 13 = some (.aload_n 0, 1) := by decide +kernel
theorem kx_188_14 : x_code k_P 188 14 = some (.getfield 20, 3) := by decide +kernel
theorem kp_188_20 : x_pool k_P 188 20 = (1, 12, 3) := by decide +kernel
theorem kx_188_17 : x_code k_P 188 17 = some (.iconst 2, 1) := by decide +kernel
theorem kx_188_18 : x_code k_P 188 18 = some (.if_icmp .eq 12, 3) := by decide +kernel
theorem kx_188_30 : x_code k_P 188 30 = some (.aload_n 0, 1) := by decide +kernel
theorem kx_188_31 : x_code k_P 188 31 = some (.getfield 39, 3) := by decide +kernel
theorem kx_188_34 : x_code k_P 188 34 = some (.ifCond .ne 24, 3) := by decide +kernel
theorem kx_188_37 : x_code k_P 188 37 = some (.aload_n 0, 1) := by decide +kernel
theorem kx_188_38 : x_code k_P 188 38 = some (.getfield 29, 3) := by decide +kernel
theorem kp_188_29 : x_pool k_P 188 29 = (1, 12, 6) := by decide +kernel
theorem kx_188_41 : x_code k_P 188 41 = some (.iload_n 1, 1) := by decide +kernel
theorem kx_188_42 : x_code k_P 188 42 = some (.iload_n 2, 1) := by decide +kernel
theorem kx_188_43 : x_code k_P 188 43 = some (.invokestatic 345, 3) := by decide +kernel
theorem kp_188_345 : x_pool k_P 188 345 = (6, 172, 3) := by decide +kernel
theorem kx_188_46 : x_code k_P 188 46 = some (.ifCond .ne 12, 3) := by decide +kernel
theorem kx_188_58 : x_code k_P 188 58 = some (.aload_n 0, 1) := by decide +kernel
theorem kx_188_59 : x_code k_P 188 59 = some (.getfield 29, 3) := by decide +kernel
theorem kx_188_62 : x_code k_P 188 62 = some (.istore_n 3, 1) := by decide +kernel
theorem km_188_3 : 3 < x_maxL k_P 188 := by decide +kernel
theorem kx_188_63 : x_code k_P 188 63 = some (.aload_n 0, 1) := by decide +kernel
theorem kx_188_64 : x_code k_P 188 64 = some (.getfield 39, 3) := by decide +kernel
theorem kx_188_67 : x_code k_P 188 67 = some (.ifCond .ne 7, 3) := by decide +kernel
theorem kx_188_70 : x_code k_P 188 70 = some (.aload_n 0, 1) := by decide +kernel
theorem kx_188_71 : x_code k_P 188 71 = some (.invokevirtual 286, 3) := by decide +kernel
theorem kp_188_286 : x_pool k_P 188 286 = (2, 180, 0) := by decide +kernel
theorem kx_188_74 : x_code k_P 188 74 = some (.iload_n 3, 1) := by decide +kernel
theorem kx_188_75 : x_code k_P 188 75 = some (.ireturn, 1) := by decide +kernel
theorem kq_188 : x_retk k_P 188 = 1 := by decide +kernel
theorem kx_188_49 : x_code k_P 188 49 = some (.aload_n 0, 1) := by decide +kernel
theorem kx_188_50 : x_code k_P 188 50 = some (.iconst 4, 1) := by decide +kernel
theorem kx_188_51 : x_code k_P 188 51 = some (.aload_n 0, 1) := by decide +kernel
theorem kx_188_52 : x_code k_P 188 52 = some (.getfield 23, 3) := by decide +kernel
theorem kp_188_23 : x_pool k_P 188 23 = (1, 12, 4) := by decide +kernel
theorem kx_188_55 : x_code k_P 188 55 = some (.invokevirtual 263, 3) := by decide +kernel
theorem kp_188_263 : x_pool k_P 188 263 = (2, 176, 2) := by decide +kernel
theorem kx_188_21 : x_code k_P 188 21 = some (.aload_n 0, 1) := by decide +kernel
theorem kx_188_22 : x_code k_P 188 22 = some (.iconst 1, 1) := by decide +kernel
theorem kx_188_23 : x_code k_P 188 23 = some (.aload_n 0, 1) := by decide +kernel
theorem kx_188_24 : x_code k_P 188 24 = some (.getfield 23, 3) := by decide +kernel
theorem kx_188_27 : x_code k_P 188 27 = some (.invokevirtual 263, 3) := by decide +kernel
theorem kx_188_11 : x_code k_P 188 11 = some (.iconst 0, 1) := by decide +kernel
theorem kx_188_12 : x_code k_P 188 12 = some (.ireturn, 1) := by decide +kernel
def fS_188_m : List (Nat × Nat) := [(63, 10), (63, 13), (63, 3), (63, 4), (63, 5), (63, 6), (63, 7), (63, 8), (63, 9)]
theorem m_188 {xs : Nat → Int} {Ln d : Nat} {T : List cK} {M : cM} (hT : TT T) (hI : Rng M) {low high : Int} (hX : LXp M) : cC k_P xs Ln (d + 2) 188 [rf 63, (0, low), (0, high)] (T, M) (qW T M fS_188_m 0 (fun v M1 => LXp M1 ∧ M 63 4 ≤ M1 63 4 ∧ M 63 9 ≤ M1 63 9 ∧ (NBd M M1 low high v))) := by
  show cP k_P xs Ln (d + 2) 188 0 [(0, rf 63), (1, (0, low)), (2, (0, high))] [] (T, M) _
  have hFm : Fr fS_188_m M M := Fr.refl
  have h639 := rg_63_9 hI
  have ⟨lx1, lx2⟩ := hX
  refine s_aload_n kx_188_0 rfl ?_
  refine s_callV2 (k := 63) (s1 := 1) (s2 := 0) (as := []) (rest := []) kx_188_1 kp_188_280 (Or.inl rfl) rfl (tk_63 hT) ki_179 kcl_179 rfl rfl (by decide) (m_179 (d := d) hT hI) (kV (fun M2 hI2 fr2 v1p => ?_))
  have hFm2 := hFm.call fr2 rfl
  have tr3 := (fr2 63 3 rfl)
  have tr4 := (fr2 63 4 rfl)
  have tr5 := (fr2 63 5 rfl)
  have tr6 := rg_63_9 hI2
  refine s_aload_n kx_188_4 rfl ?_
  refine r_getI (k := 63) (f := 9) kx_188_5 kp_188_39 (tk_63 hT) kf_12_9 (fun _ => rfl) (rg_63_9 hI2) (fun v7 v7e v7a v7b => ?_)
  refine s_if_le (t := 13) kx_188_8 (by decide) (fun hc8 => ?_) (fun hc8 => ?_)
  · refine s_aload_n kx_188_13 rfl ?_
    refine r_getI (k := 63) (f := 3) kx_188_14 kp_188_20 (tk_63 hT) kf_12_3 (fun _ => rfl) (rg_63_3 hI2) (fun v9 v9e v9a v9b => ?_)
    have v9z : M 63 3 = v9 := ((fr2 63 3 rfl)).symm.trans v9e
    refine s_iconst (v := 2) kx_188_17 (by decide) ?_
    refine s_icmp_eq (t := 30) kx_188_18 (by decide) (fun hc10 => ?_) (fun hc10 => ?_)
    · refine s_aload_n kx_188_30 rfl ?_
      refine r_getK (k := 63) (f := 9) kx_188_31 kp_188_39 (tk_63 hT) kf_12_9 (fun _ => rfl) v7e ?_
      refine s_if_ne (t := 58) kx_188_34 (by decide) (fun hc11 => absurd hc11 (by omega)) (fun hc11 => ?_)
      refine s_aload_n kx_188_37 rfl ?_
      refine r_getU (k := 63) (f := 6) kx_188_38 kp_188_29 (tk_63 hT) kf_12_6 (fun _ => rfl) (fun v12 v12e => ?_)
      have v12z : M 63 6 = v12 := ((fr2 63 6 rfl)).symm.trans v12e
      refine s_iload_n kx_188_41 rfl ?_
      refine s_iload_n kx_188_42 rfl ?_
      refine s_callS2 (s1 := 3) (s2 := 0) (as := [(0, high), (0, low), (0, v12)]) (rest := []) kx_188_43 kp_188_345 rfl kcl_172 rfl rfl (by decide) (m_172 (d := d + 1) (v_ := v12) (least := low) (most := high) hT hI2) (kF (fun v13 v13p => ?_))
      refine s_if_ne (t := 58) kx_188_46 (by decide) (fun hc14 => ?_) (fun hc14 => ?_)
      · replace v13p := v13p.resolve_right (by omega)
        refine s_aload_n kx_188_58 rfl ?_
        refine r_getK (k := 63) (f := 6) kx_188_59 kp_188_29 (tk_63 hT) kf_12_6 (fun _ => rfl) v12e ?_
        refine s_istore_n kx_188_62 km_188_3 rfl ?_
        refine s_aload_n kx_188_63 rfl ?_
        refine r_getK (k := 63) (f := 9) kx_188_64 kp_188_39 (tk_63 hT) kf_12_9 (fun _ => rfl) v7e ?_
        refine s_if_ne (t := 74) kx_188_67 (by decide) (fun hc15 => absurd hc15 (by omega)) (fun hc15 => ?_)
        refine s_aload_n kx_188_70 rfl ?_
        refine s_callV2 (k := 63) (s1 := 1) (s2 := 0) (as := []) (rest := []) kx_188_71 kp_188_286 (Or.inl rfl) rfl (tk_63 hT) ki_180 kcl_180 rfl rfl (by decide) (m_180 (d := d) hT hI2) (kV (fun M17 hI17 fr17 v16p => ?_))
        have hFm17 := hFm2.call fr17 rfl
        have tr18 := (fr17 63 9 rfl)
        have tr19 := rg_63_9 hI17
        refine s_iload_n kx_188_74 rfl ?_
        have hk20 : M17 63 9 = v7 := ((fr17 63 9 rfl).trans v7e)
        exact s_iret kx_188_75 (Or.inl kq_188) ⟨_, _, rfl, rfl, hI17, hFm17, ⟨(show LXp M17 from v16p.2), (by omega), (by omega), (by unfold NBd; omega)⟩⟩
      · replace v13p := v13p.resolve_left (by omega)
        refine s_aload_n kx_188_49 rfl ?_
        refine s_iconst (v := 4) kx_188_50 (by decide) ?_
        refine s_aload_n kx_188_51 rfl ?_
        refine r_getI (k := 63) (f := 4) kx_188_52 kp_188_23 (tk_63 hT) kf_12_4 (fun _ => rfl) (rg_63_4 hI2) (fun v21 v21e v21a v21b => ?_)
        have v21z : M 63 4 = v21 := ((fr2 63 4 rfl)).symm.trans v21e
        refine s_callV2 (k := 63) (s1 := 3) (s2 := 0) (as := [(0, v21), (0, 4)]) (rest := []) kx_188_55 kp_188_263 (Or.inl rfl) rfl (tk_63 hT) ki_176 kcl_176 rfl rfl (by decide) (m_176 (d := d + 1) (kind := 4) (place := v21) hT hI2 (by omega)) (kV (fun M23 hI23 fr23 v22p => ?_))
        have hFm23 := hFm2.call fr23 rfl
        have tr24 := (fr23 63 3 rfl)
        have tr25 := (fr23 63 4 rfl)
        have tr26 := (fr23 63 5 rfl)
        have tr27 := rg_63_9 hI23
        refine s_aload_n kx_188_58 rfl ?_
        refine r_getK (k := 63) (f := 6) kx_188_59 kp_188_29 (tk_63 hT) kf_12_6 (fun _ => rfl) ((fr23 63 6 rfl).trans v12e) ?_
        refine s_istore_n kx_188_62 km_188_3 rfl ?_
        refine s_aload_n kx_188_63 rfl ?_
        refine r_getI (k := 63) (f := 9) kx_188_64 kp_188_39 (tk_63 hT) kf_12_9 (fun _ => rfl) (rg_63_9 hI23) (fun v28 v28e v28a v28b => ?_)
        refine s_if_ne (t := 74) kx_188_67 (by decide) (fun hc29 => ?_) (fun hc29 => ?_)
        · refine s_iload_n kx_188_74 rfl ?_
          have hk30 : M23 63 3 = v9 := ((fr23 63 3 rfl).trans v9e)
          have hk31 : M23 63 4 = v21 := ((fr23 63 4 rfl).trans v21e)
          have hk32 : M23 63 9 = v28 := v28e
          exact s_iret kx_188_75 (Or.inl kq_188) ⟨_, _, rfl, rfl, hI23, hFm23, ⟨(LXp.fr (LXp.fr hX fr2 rfl) fr23 rfl), (by omega), (by omega), (by unfold NBd; omega)⟩⟩
        · refine s_aload_n kx_188_70 rfl ?_
          refine s_callV2 (k := 63) (s1 := 1) (s2 := 0) (as := []) (rest := []) kx_188_71 kp_188_286 (Or.inl rfl) rfl (tk_63 hT) ki_180 kcl_180 rfl rfl (by decide) (m_180 (d := d) hT hI23) (kV (fun M34 hI34 fr34 v33p => ?_))
          have hFm34 := hFm23.call fr34 rfl
          have tr35 := (fr34 63 9 rfl)
          have tr36 := rg_63_9 hI34
          refine s_iload_n kx_188_74 rfl ?_
          have hk37 : M34 63 9 = v28 := ((fr34 63 9 rfl).trans v28e)
          exact s_iret kx_188_75 (Or.inl kq_188) ⟨_, _, rfl, rfl, hI34, hFm34, ⟨(show LXp M34 from v33p.2), (by omega), (by omega), (by unfold NBd; omega)⟩⟩
    · refine s_aload_n kx_188_21 rfl ?_
      refine s_iconst (v := 1) kx_188_22 (by decide) ?_
      refine s_aload_n kx_188_23 rfl ?_
      refine r_getI (k := 63) (f := 4) kx_188_24 kp_188_23 (tk_63 hT) kf_12_4 (fun _ => rfl) (rg_63_4 hI2) (fun v38 v38e v38a v38b => ?_)
      have v38z : M 63 4 = v38 := ((fr2 63 4 rfl)).symm.trans v38e
      refine s_callV2 (k := 63) (s1 := 3) (s2 := 0) (as := [(0, v38), (0, 1)]) (rest := []) kx_188_27 kp_188_263 (Or.inl rfl) rfl (tk_63 hT) ki_176 kcl_176 rfl rfl (by decide) (m_176 (d := d + 1) (kind := 1) (place := v38) hT hI2 (by omega)) (kV (fun M40 hI40 fr40 v39p => ?_))
      have hFm40 := hFm2.call fr40 rfl
      have tr41 := (fr40 63 3 rfl)
      have tr42 := (fr40 63 4 rfl)
      have tr43 := (fr40 63 5 rfl)
      have tr44 := rg_63_9 hI40
      refine s_aload_n kx_188_30 rfl ?_
      refine r_getI (k := 63) (f := 9) kx_188_31 kp_188_39 (tk_63 hT) kf_12_9 (fun _ => rfl) (rg_63_9 hI40) (fun v45 v45e v45a v45b => ?_)
      refine s_if_ne (t := 58) kx_188_34 (by decide) (fun hc46 => ?_) (fun hc46 => ?_)
      · refine s_aload_n kx_188_58 rfl ?_
        refine r_getU (k := 63) (f := 6) kx_188_59 kp_188_29 (tk_63 hT) kf_12_6 (fun _ => rfl) (fun v47 v47e => ?_)
        have v47z : M 63 6 = v47 := (((fr40 63 6 rfl).trans (fr2 63 6 rfl))).symm.trans v47e
        refine s_istore_n kx_188_62 km_188_3 rfl ?_
        refine s_aload_n kx_188_63 rfl ?_
        refine r_getK (k := 63) (f := 9) kx_188_64 kp_188_39 (tk_63 hT) kf_12_9 (fun _ => rfl) v45e ?_
        refine s_if_ne (t := 74) kx_188_67 (by decide) (fun hc48 => ?_) (fun hc48 => absurd hc48 (by omega))
        refine s_iload_n kx_188_74 rfl ?_
        have hk49 : M40 63 3 = v9 := ((fr40 63 3 rfl).trans v9e)
        have hk50 : M40 63 4 = v38 := ((fr40 63 4 rfl).trans v38e)
        have hk51 : M40 63 9 = v45 := v45e
        exact s_iret kx_188_75 (Or.inl kq_188) ⟨_, _, rfl, rfl, hI40, hFm40, ⟨(LXp.fr (LXp.fr hX fr2 rfl) fr40 rfl), (by omega), (by omega), (by unfold NBd; omega)⟩⟩
      · refine s_aload_n kx_188_37 rfl ?_
        refine r_getU (k := 63) (f := 6) kx_188_38 kp_188_29 (tk_63 hT) kf_12_6 (fun _ => rfl) (fun v52 v52e => ?_)
        have v52z : M 63 6 = v52 := (((fr40 63 6 rfl).trans (fr2 63 6 rfl))).symm.trans v52e
        refine s_iload_n kx_188_41 rfl ?_
        refine s_iload_n kx_188_42 rfl ?_
        refine s_callS2 (s1 := 3) (s2 := 0) (as := [(0, high), (0, low), (0, v52)]) (rest := []) kx_188_43 kp_188_345 rfl kcl_172 rfl rfl (by decide) (m_172 (d := d + 1) (v_ := v52) (least := low) (most := high) hT hI40) (kF (fun v53 v53p => ?_))
        refine s_if_ne (t := 58) kx_188_46 (by decide) (fun hc54 => ?_) (fun hc54 => ?_)
        · replace v53p := v53p.resolve_right (by omega)
          refine s_aload_n kx_188_58 rfl ?_
          refine r_getK (k := 63) (f := 6) kx_188_59 kp_188_29 (tk_63 hT) kf_12_6 (fun _ => rfl) v52e ?_
          refine s_istore_n kx_188_62 km_188_3 rfl ?_
          refine s_aload_n kx_188_63 rfl ?_
          refine r_getK (k := 63) (f := 9) kx_188_64 kp_188_39 (tk_63 hT) kf_12_9 (fun _ => rfl) v45e ?_
          refine s_if_ne (t := 74) kx_188_67 (by decide) (fun hc55 => absurd hc55 (by omega)) (fun hc55 => ?_)
          refine s_aload_n kx_188_70 rfl ?_
          refine s_callV2 (k := 63) (s1 := 1) (s2 := 0) (as := []) (rest := []) kx_188_71 kp_188_286 (Or.inl rfl) rfl (tk_63 hT) ki_180 kcl_180 rfl rfl (by decide) (m_180 (d := d) hT hI40) (kV (fun M57 hI57 fr57 v56p => ?_))
          have hFm57 := hFm40.call fr57 rfl
          have tr58 := (fr57 63 9 rfl)
          have tr59 := rg_63_9 hI57
          refine s_iload_n kx_188_74 rfl ?_
          have hk60 : M57 63 9 = v45 := ((fr57 63 9 rfl).trans v45e)
          exact s_iret kx_188_75 (Or.inl kq_188) ⟨_, _, rfl, rfl, hI57, hFm57, ⟨(show LXp M57 from v56p.2), (by omega), (by omega), (by unfold NBd; omega)⟩⟩
        · replace v53p := v53p.resolve_left (by omega)
          refine s_aload_n kx_188_49 rfl ?_
          refine s_iconst (v := 4) kx_188_50 (by decide) ?_
          refine s_aload_n kx_188_51 rfl ?_
          refine r_getK (k := 63) (f := 4) kx_188_52 kp_188_23 (tk_63 hT) kf_12_4 (fun _ => rfl) ((fr40 63 4 rfl).trans v38e) ?_
          refine s_callV2 (k := 63) (s1 := 3) (s2 := 0) (as := [(0, v38), (0, 4)]) (rest := []) kx_188_55 kp_188_263 (Or.inl rfl) rfl (tk_63 hT) ki_176 kcl_176 rfl rfl (by decide) (m_176 (d := d + 1) (kind := 4) (place := v38) hT hI40 (by omega)) (kV (fun M62 hI62 fr62 v61p => ?_))
          have hFm62 := hFm40.call fr62 rfl
          have tr63 := (fr62 63 3 rfl)
          have tr64 := (fr62 63 4 rfl)
          have tr65 := (fr62 63 5 rfl)
          have tr66 := rg_63_9 hI62
          refine s_aload_n kx_188_58 rfl ?_
          refine r_getK (k := 63) (f := 6) kx_188_59 kp_188_29 (tk_63 hT) kf_12_6 (fun _ => rfl) ((fr62 63 6 rfl).trans v52e) ?_
          refine s_istore_n kx_188_62 km_188_3 rfl ?_
          refine s_aload_n kx_188_63 rfl ?_
          refine r_getI (k := 63) (f := 9) kx_188_64 kp_188_39 (tk_63 hT) kf_12_9 (fun _ => rfl) (rg_63_9 hI62) (fun v67 v67e v67a v67b => ?_)
          refine s_if_ne (t := 74) kx_188_67 (by decide) (fun hc68 => ?_) (fun hc68 => ?_)
          · refine s_iload_n kx_188_74 rfl ?_
            have hk69 : M62 63 3 = v9 := ((fr62 63 3 rfl).trans ((fr40 63 3 rfl).trans v9e))
            have hk70 : M62 63 4 = v38 := ((fr62 63 4 rfl).trans ((fr40 63 4 rfl).trans v38e))
            have hk71 : M62 63 9 = v67 := v67e
            exact s_iret kx_188_75 (Or.inl kq_188) ⟨_, _, rfl, rfl, hI62, hFm62, ⟨(LXp.fr (LXp.fr (LXp.fr hX fr2 rfl) fr40 rfl) fr62 rfl), (by omega), (by omega), (by unfold NBd; omega)⟩⟩
          · refine s_aload_n kx_188_70 rfl ?_
            refine s_callV2 (k := 63) (s1 := 1) (s2 := 0) (as := []) (rest := []) kx_188_71 kp_188_286 (Or.inl rfl) rfl (tk_63 hT) ki_180 kcl_180 rfl rfl (by decide) (m_180 (d := d) hT hI62) (kV (fun M73 hI73 fr73 v72p => ?_))
            have hFm73 := hFm62.call fr73 rfl
            have tr74 := (fr73 63 9 rfl)
            have tr75 := rg_63_9 hI73
            refine s_iload_n kx_188_74 rfl ?_
            have hk76 : M73 63 9 = v67 := ((fr73 63 9 rfl).trans v67e)
            exact s_iret kx_188_75 (Or.inl kq_188) ⟨_, _, rfl, rfl, hI73, hFm73, ⟨(show LXp M73 from v72p.2), (by omega), (by omega), (by unfold NBd; omega)⟩⟩
  · refine s_iconst (v := 0) kx_188_11 (by decide) ?_
    have hk77 : M2 63 9 = v7 := v7e
    exact s_iret kx_188_12 (Or.inl kq_188) ⟨_, _, rfl, rfl, hI2, hFm2, ⟨(LXp.fr hX fr2 rfl), (by omega), (by omega), (by unfold NBd; omega)⟩⟩
theorem kx_201_0 : x_code k_P 201 0 = some (.aload_n 0, 1) := by decide +kernel
theorem kx_201_1 : x_code k_P 201 1 = some (.invokevirtual 280, 3) := by decide +kernel
theorem kp_201_280 : x_pool k_P 201 280 = (2, 179, 0) := by decide +kernel
theorem kx_201_4 : x_code k_P 201 4 = some (.aload_n 0, 1) := by decide +kernel
theorem kx_201_5 : x_code k_P 201 5 = some (.getfield 39, 3) := by decide +kernel
theorem kp_201_39 : x_pool k_P 201 39 = (1, 12, 9) := by decide +kernel
theorem kx_201_8 : x_code k_P 201 8 = some (.ifCond .le 5, 3) := by decide +kernel
theorem kx_201_13 : x_code k_P 201 13 = some (.aload_n 0, 1) := by decide +kernel
theorem kx_201_14 : x_code k_P 201 14 = some (.getfield 20, 3) := by decide +kernel
theorem kp_201_20 : x_pool k_P 201 20 = (1, 12, 3) := by decide +kernel
theorem kx_201_17 : x_code k_P 201 17 = some (.iconst 1, 1) := by decide +kernel
theorem kx_201_18 : x_code k_P 201 18 = some (.if_icmp .ne 14, 3) := by decide +kernel
theorem kx_201_32 : x_code k_P 201 32 = some (.aload_n 0, 1) := by decide +kernel
theorem kx_201_33 : x_code k_P 201 33 = some (.iconst 1, 1) := by decide +kernel
theorem kx_201_34 : x_code k_P 201 34 = some (.aload_n 0, 1) := by decide +kernel
theorem kx_201_35 : x_code k_P 201 35 = some (.getfield 23, 3) := by decide +kernel
theorem kp_201_23 : x_pool k_P 201 23 = (1, 12, 4) := by decide +kernel
theorem kx_201_38 : x_code k_P 201 38 = some (.invokevirtual 263, 3) := by decide +kernel
theorem kp_201_263 : x_pool k_P 201 263 = (2, 176, 2) := by decide +kernel
theorem kx_201_41 : x_code k_P 201 41 = some (.iconst 0, 1) := by decide +kernel
theorem kx_201_42 : x_code k_P 201 42 = some (.istore_n 1, 1) := by decide +kernel
theorem km_201_1 : 1 < x_maxL k_P 201 := by decide +kernel
theorem kx_201_43 : x_code k_P 201 43 = some (.iload_n 1, 1) := by decide +kernel
theorem kx_201_44 : x_code k_P 201 44 = some (.iconst 1, 1) := by decide +kernel
theorem kx_201_45 : x_code k_P 201 45 = some (.if_icmp .gt 38, 3) := by decide +kernel
theorem kx_201_83 : x_code k_P 201 83 = some (.aload_n 0, 1) := by decide +kernel
theorem kx_201_84 : x_code k_P 201 84 = some (.getfield 32, 3) := by decide +kernel
theorem kp_201_32 : x_pool k_P 201 32 = (1, 12, 7) := by decide +kernel
theorem kx_201_87 : x_code k_P 201 87 = some (.lstore_n 1, 1) := by decide +kernel
theorem km_201_2 : 2 < x_maxL k_P 201 := by decide +kernel
theorem kx_201_88 : x_code k_P 201 88 = some (.aload_n 0, 1) := by decide +kernel
theorem kx_201_89 : x_code k_P 201 89 = some (.getfield 39, 3) := by decide +kernel
theorem kx_201_92 : x_code k_P 201 92 = some (.ifCond .ne 7, 3) := by decide +kernel
theorem kx_201_99 : x_code k_P 201 99 = some (.lload_n 1, 1) := by decide +kernel
theorem kx_201_100 : x_code k_P 201 100 = some (.lreturn, 1) := by decide +kernel
theorem kq_201 : x_retk k_P 201 = 3 := by decide +kernel
theorem kx_201_95 : x_code k_P 201 95 = some (.aload_n 0, 1) := by decide +kernel
theorem kx_201_96 : x_code k_P 201 96 = some (.invokevirtual 286, 3) := by decide +kernel
theorem kp_201_286 : x_pool k_P 201 286 = (2, 180, 0) := by decide +kernel
theorem kx_201_48 : x_code k_P 201 48 = some (.aload_n 0, 1) := by decide +kernel
theorem kx_201_49 : x_code k_P 201 49 = some (.getfield 39, 3) := by decide +kernel
theorem kx_201_52 : x_code k_P 201 52 = some (.ifCond .ne 31, 3) := by decide +kernel
theorem kx_201_55 : x_code k_P 201 55 = some (.aload_n 0, 1) := by decide +kernel
theorem kx_201_56 : x_code k_P 201 56 = some (.iload_n 1, 1) := by decide +kernel
theorem kx_201_57 : x_code k_P 201 57 = some (.aload_n 0, 1) := by decide +kernel
theorem kx_201_58 : x_code k_P 201 58 = some (.getfield 32, 3) := by decide +kernel
theorem kx_201_61 : x_code k_P 201 61 = some (.invokevirtual 379, 3) := by decide +kernel
theorem kp_201_379 : x_pool k_P 201 379 = (2, 187, 2) := by decide +kernel
theorem ki_187 : x_mci k_P 187 = 12 := by decide +kernel
theorem kcl_187 : x_maxL k_P 187 ≤ 60 ∧ 4 ≤ x_maxL k_P 187 := by decide +kernel
theorem kx_201_64 : x_code k_P 201 64 = some (.iconst (-1), 1) := by decide +kernel
theorem kx_201_65 : x_code k_P 201 65 = some (.if_icmp .eq 12, 3) := by decide +kernel
theorem kx_201_77 : x_code k_P 201 77 = some (.iinc 1 1, 3) := by decide +kernel
theorem kx_201_80 : x_code k_P 201 80 = some (.goto (-37), 3) := by decide +kernel
theorem kx_201_68 : x_code k_P 201 68 = some (.aload_n 0, 1) := by decide +kernel
theorem kx_201_69 : x_code k_P 201 69 = some (.iconst 2, 1) := by decide +kernel
theorem kx_201_70 : x_code k_P 201 70 = some (.aload_n 0, 1) := by decide +kernel
theorem kx_201_71 : x_code k_P 201 71 = some (.getfield 23, 3) := by decide +kernel
theorem kx_201_74 : x_code k_P 201 74 = some (.invokevirtual 263, 3) := by decide +kernel
theorem kx_201_21 : x_code k_P 201 21 = some (.aload_n 0, 1) := by decide +kernel
theorem kx_201_22 : x_code k_P 201 22 = some (.aload_n 0, 1) := by decide +kernel
theorem kx_201_23 : x_code k_P 201 23 = some (.getfield 32, 3) := by decide +kernel
theorem kx_201_26 : x_code k_P 201 26 = some (.invokevirtual 276, 3) := by decide +kernel
theorem kp_201_276 : x_pool k_P 201 276 = (2, 184, 1) := by decide +kernel
theorem kx_201_29 : x_code k_P 201 29 = some (.ifCond .eq 12, 3) := by decide +kernel
theorem kx_201_11 : x_code k_P 201 11 = some (.lconst 0, 1) := by decide +kernel
theorem kx_201_12 : x_code k_P 201 12 = some (.lreturn, 1) := by decide +kernel
def fS_201_l43 : List (Nat × Nat) := [(63, 10), (63, 9)]
def fS_201_m : List (Nat × Nat) := [(63, 10), (63, 13), (63, 3), (63, 4), (63, 5), (63, 6), (63, 7), (63, 8), (63, 9)]
theorem m_201 {xs : Nat → Int} {Ln d : Nat} {T : List cK} {M : cM} (hT : TT T) (hI : Rng M) (hX : LXp M) : cC k_P xs Ln (d + 2) 201 [rf 63] (T, M) (qW T M fS_201_m 1 (fun v M1 => LXp M1 ∧ M 63 4 ≤ M1 63 4 ∧ M 63 9 ≤ M1 63 9 ∧ (PRd M M1))) := by
  show cP k_P xs Ln (d + 2) 201 0 [(0, rf 63)] [] (T, M) _
  have hFm : Fr fS_201_m M M := Fr.refl
  have h639 := rg_63_9 hI
  have ⟨lx1, lx2⟩ := hX
  refine s_aload_n kx_201_0 rfl ?_
  refine s_callV2 (k := 63) (s1 := 1) (s2 := 0) (as := []) (rest := []) kx_201_1 kp_201_280 (Or.inl rfl) rfl (tk_63 hT) ki_179 kcl_179 rfl rfl (by decide) (m_179 (d := d) hT hI) (kV (fun M2 hI2 fr2 v1p => ?_))
  have hFm2 := hFm.call fr2 rfl
  have tr3 := (fr2 63 3 rfl)
  have tr4 := (fr2 63 4 rfl)
  have tr5 := (fr2 63 5 rfl)
  have tr6 := rg_63_9 hI2
  refine s_aload_n kx_201_4 rfl ?_
  refine r_getI (k := 63) (f := 9) kx_201_5 kp_201_39 (tk_63 hT) kf_12_9 (fun _ => rfl) (rg_63_9 hI2) (fun v7 v7e v7a v7b => ?_)
  refine s_if_le (t := 13) kx_201_8 (by decide) (fun hc8 => ?_) (fun hc8 => ?_)
  · refine s_aload_n kx_201_13 rfl ?_
    refine r_getI (k := 63) (f := 3) kx_201_14 kp_201_20 (tk_63 hT) kf_12_3 (fun _ => rfl) (rg_63_3 hI2) (fun v9 v9e v9a v9b => ?_)
    have v9z : M 63 3 = v9 := ((fr2 63 3 rfl)).symm.trans v9e
    refine s_iconst (v := 1) kx_201_17 (by decide) ?_
    refine s_icmp_ne (t := 32) kx_201_18 (by decide) (fun hc10 => ?_) (fun hc10 => ?_)
    · refine s_aload_n kx_201_32 rfl ?_
      refine s_iconst (v := 1) kx_201_33 (by decide) ?_
      refine s_aload_n kx_201_34 rfl ?_
      refine r_getI (k := 63) (f := 4) kx_201_35 kp_201_23 (tk_63 hT) kf_12_4 (fun _ => rfl) (rg_63_4 hI2) (fun v11 v11e v11a v11b => ?_)
      have v11z : M 63 4 = v11 := ((fr2 63 4 rfl)).symm.trans v11e
      refine s_callV2 (k := 63) (s1 := 3) (s2 := 0) (as := [(0, v11), (0, 1)]) (rest := []) kx_201_38 kp_201_263 (Or.inl rfl) rfl (tk_63 hT) ki_176 kcl_176 rfl rfl (by decide) (m_176 (d := d + 1) (kind := 1) (place := v11) hT hI2 (by omega)) (kV (fun M13 hI13 fr13 v12p => ?_))
      have hFm13 := hFm2.call fr13 rfl
      have tr14 := (fr13 63 3 rfl)
      have tr15 := (fr13 63 4 rfl)
      have tr16 := (fr13 63 5 rfl)
      have tr17 := rg_63_9 hI13
      refine s_iconst (v := 0) kx_201_41 (by decide) ?_
      refine s_istore_n kx_201_42 km_201_1 rfl ?_
      have key20 : ∀ n21 : Nat, ∀ (x1_18 : Int), ∀ M19 : cM, Rng M19 → Fr fS_201_m M M19 → Fr fS_201_l43 M13 M19 → (0 ≤ x1_18) → ((1 ≤ M19 63 9 ∨ M19 63 3 = 1)) → (M 63 9 ≤ M19 63 9) → (2147483647 - x1_18).toNat < n21 → cP k_P xs Ln (d + 2) 201 43 [(0, rf 63), (1, (0, x1_18))] [] (T, M19) (qW T M fS_201_m 1 (fun v M1 => LXp M1 ∧ M 63 4 ≤ M1 63 4 ∧ M 63 9 ≤ M1 63 9 ∧ (PRd M M1))) := by
        intro n21
        induction n21 with
        | zero => intro x1_18 M19 hI19 hFm19 fl19 i22 i23 i24 hm25; exact absurd hm25 (Nat.not_lt_zero _)
        | succ n21 ih26 =>
          intro x1_18 M19 hI19 hFm19 fl19 i22 i23 i24 hm25
          have tr27 := fl19 63 3 rfl
          have tr28 := fl19 63 4 rfl
          have tr29 := fl19 63 5 rfl
          have tr30 := rg_63_9 hI19
          refine s_iload_n kx_201_43 rfl ?_
          refine s_iconst (v := 1) kx_201_44 (by decide) ?_
          refine s_icmp_gt (t := 83) kx_201_45 (by decide) (fun hc31 => ?_) (fun hc31 => ?_)
          · refine s_aload_n kx_201_83 rfl ?_
            refine r_getU (k := 63) (f := 7) kx_201_84 kp_201_32 (tk_63 hT) kf_12_7 (fun _ => rfl) (fun v32 v32e => ?_)
            have v32z : M 63 7 = v32 := (((fl19 63 7 rfl).trans ((fr13 63 7 rfl).trans (fr2 63 7 rfl)))).symm.trans v32e
            refine s_lstore_n kx_201_87 km_201_2 rfl ?_
            refine s_aload_n kx_201_88 rfl ?_
            refine r_getI (k := 63) (f := 9) kx_201_89 kp_201_39 (tk_63 hT) kf_12_9 (fun _ => rfl) (rg_63_9 hI19) (fun v33 v33e v33a v33b => ?_)
            refine s_if_ne (t := 99) kx_201_92 (by decide) (fun hc34 => ?_) (fun hc34 => ?_)
            · refine s_lload_n kx_201_99 rfl ?_
              have hk35 : M19 63 3 = v9 := ((fl19 63 3 rfl).trans ((fr13 63 3 rfl).trans v9e))
              have hk36 : M19 63 4 = v11 := ((fl19 63 4 rfl).trans ((fr13 63 4 rfl).trans v11e))
              have hk37 : M19 63 9 = v33 := v33e
              exact s_lret kx_201_100 kq_201 ⟨_, _, rfl, rfl, hI19, hFm19, ⟨(LXp.fr (LXp.fr (LXp.fr hX fr2 rfl) fr13 rfl) fl19 rfl), (by omega), (by omega), (by unfold PRd; omega)⟩⟩
            · refine s_aload_n kx_201_95 rfl ?_
              refine s_callV2 (k := 63) (s1 := 1) (s2 := 0) (as := []) (rest := []) kx_201_96 kp_201_286 (Or.inl rfl) rfl (tk_63 hT) ki_180 kcl_180 rfl rfl (by decide) (m_180 (d := d) hT hI19) (kV (fun M39 hI39 fr39 v38p => ?_))
              have hFm39 := hFm19.call fr39 rfl
              have tr40 := (fr39 63 9 rfl)
              have tr41 := rg_63_9 hI39
              refine s_lload_n kx_201_99 rfl ?_
              have hk42 : M39 63 9 = v33 := ((fr39 63 9 rfl).trans v33e)
              exact s_lret kx_201_100 kq_201 ⟨_, _, rfl, rfl, hI39, hFm39, ⟨(show LXp M39 from v38p.2), (by omega), (by omega), (by unfold PRd; omega)⟩⟩
          · refine s_aload_n kx_201_48 rfl ?_
            refine r_getI (k := 63) (f := 9) kx_201_49 kp_201_39 (tk_63 hT) kf_12_9 (fun _ => rfl) (rg_63_9 hI19) (fun v43 v43e v43a v43b => ?_)
            refine s_if_ne (t := 83) kx_201_52 (by decide) (fun hc44 => ?_) (fun hc44 => ?_)
            · refine s_aload_n kx_201_83 rfl ?_
              refine r_getU (k := 63) (f := 7) kx_201_84 kp_201_32 (tk_63 hT) kf_12_7 (fun _ => rfl) (fun v45 v45e => ?_)
              have v45z : M 63 7 = v45 := (((fl19 63 7 rfl).trans ((fr13 63 7 rfl).trans (fr2 63 7 rfl)))).symm.trans v45e
              refine s_lstore_n kx_201_87 km_201_2 rfl ?_
              refine s_aload_n kx_201_88 rfl ?_
              refine r_getK (k := 63) (f := 9) kx_201_89 kp_201_39 (tk_63 hT) kf_12_9 (fun _ => rfl) v43e ?_
              refine s_if_ne (t := 99) kx_201_92 (by decide) (fun hc46 => ?_) (fun hc46 => absurd hc46 (by omega))
              refine s_lload_n kx_201_99 rfl ?_
              have hk47 : M19 63 3 = v9 := ((fl19 63 3 rfl).trans ((fr13 63 3 rfl).trans v9e))
              have hk48 : M19 63 4 = v11 := ((fl19 63 4 rfl).trans ((fr13 63 4 rfl).trans v11e))
              have hk49 : M19 63 9 = v43 := v43e
              exact s_lret kx_201_100 kq_201 ⟨_, _, rfl, rfl, hI19, hFm19, ⟨(LXp.fr (LXp.fr (LXp.fr hX fr2 rfl) fr13 rfl) fl19 rfl), (by omega), (by omega), (by unfold PRd; omega)⟩⟩
            · refine s_aload_n kx_201_55 rfl ?_
              refine s_iload_n kx_201_56 rfl ?_
              refine s_aload_n kx_201_57 rfl ?_
              refine r_getU (k := 63) (f := 7) kx_201_58 kp_201_32 (tk_63 hT) kf_12_7 (fun _ => rfl) (fun v50 v50e => ?_)
              have v50z : M 63 7 = v50 := (((fl19 63 7 rfl).trans ((fr13 63 7 rfl).trans (fr2 63 7 rfl)))).symm.trans v50e
              refine s_callV2 (k := 63) (s1 := 4) (s2 := 0) (as := [(1, v50), (0, x1_18)]) (rest := []) kx_201_61 kp_201_379 (Or.inl rfl) rfl (tk_63 hT) ki_187 kcl_187 rfl rfl (by decide) (m_187 (d := d) (kind := x1_18) (w := v50) hT hI19) (kF (fun v51 v51p => ?_))
              refine s_iconst (v := (-1)) kx_201_64 (by decide) ?_
              refine s_icmp_eq (t := 77) kx_201_65 (by decide) (fun hc52 => ?_) (fun hc52 => ?_)
              · refine r_iinc kx_201_77 rfl km_201_1 (by decide) ⟨by omega, by omega⟩ rfl ?_
                refine s_goto (t := 43) kx_201_80 (by decide) ?_
                exact cP.wk (lS1 rfl (lS1 rfl lS0)) (ih26 (x1_18 + 1) M19 hI19 hFm19 fl19 (by omega) (by omega) (by omega) (by omega))
              · refine s_aload_n kx_201_68 rfl ?_
                refine s_iconst (v := 2) kx_201_69 (by decide) ?_
                refine s_aload_n kx_201_70 rfl ?_
                refine r_getK (k := 63) (f := 4) kx_201_71 kp_201_23 (tk_63 hT) kf_12_4 (fun _ => rfl) ((fl19 63 4 rfl).trans ((fr13 63 4 rfl).trans v11e)) ?_
                refine s_callV2 (k := 63) (s1 := 3) (s2 := 0) (as := [(0, v11), (0, 2)]) (rest := []) kx_201_74 kp_201_263 (Or.inl rfl) rfl (tk_63 hT) ki_176 kcl_176 rfl rfl (by decide) (m_176 (d := d + 1) (kind := 2) (place := v11) hT hI19 (by omega)) (kV (fun M54 hI54 fr54 v53p => ?_))
                have hFm54 := hFm19.call fr54 rfl
                have hFl4354 := fl19.call fr54 rfl
                have tr55 := (fr54 63 3 rfl)
                have tr56 := (fr54 63 4 rfl)
                have tr57 := (fr54 63 5 rfl)
                have tr58 := rg_63_9 hI54
                refine r_iinc kx_201_77 rfl km_201_1 (by decide) ⟨by omega, by omega⟩ rfl ?_
                refine s_goto (t := 43) kx_201_80 (by decide) ?_
                exact cP.wk (lS1 rfl (lS1 rfl lS0)) (ih26 (x1_18 + 1) M54 hI54 hFm54 hFl4354 (by omega) (by omega) (by omega) (by omega))
      exact cP.wk (lS1 rfl (lS1 rfl lS0)) (key20 _ 0 M13 hI13 hFm13 Fr.refl (by omega) (by omega) (by omega) (Nat.lt_succ_self _))
    · refine s_aload_n kx_201_21 rfl ?_
      refine s_aload_n kx_201_22 rfl ?_
      refine r_getU (k := 63) (f := 7) kx_201_23 kp_201_32 (tk_63 hT) kf_12_7 (fun _ => rfl) (fun v59 v59e => ?_)
      have v59z : M 63 7 = v59 := ((fr2 63 7 rfl)).symm.trans v59e
      refine s_callV2 (k := 63) (s1 := 3) (s2 := 0) (as := [(1, v59)]) (rest := []) kx_201_26 kp_201_276 (Or.inl rfl) rfl (tk_63 hT) ki_184 kcl_184 rfl rfl (by decide) (m_184 (d := d + 1) (w := v59) hT hI2) (kF (fun v60 v60p => ?_))
      refine s_if_eq (t := 41) kx_201_29 (by decide) (fun hc61 => ?_) (fun hc61 => ?_)
      · refine s_iconst (v := 0) kx_201_41 (by decide) ?_
        refine s_istore_n kx_201_42 km_201_1 rfl ?_
        have key64 : ∀ n65 : Nat, ∀ (x1_62 : Int), ∀ M63 : cM, Rng M63 → Fr fS_201_m M M63 → Fr fS_201_l43 M2 M63 → (0 ≤ x1_62) → ((1 ≤ M63 63 9 ∨ M63 63 3 = 1)) → (M 63 9 ≤ M63 63 9) → (2147483647 - x1_62).toNat < n65 → cP k_P xs Ln (d + 2) 201 43 [(0, rf 63), (1, (0, x1_62))] [] (T, M63) (qW T M fS_201_m 1 (fun v M1 => LXp M1 ∧ M 63 4 ≤ M1 63 4 ∧ M 63 9 ≤ M1 63 9 ∧ (PRd M M1))) := by
          intro n65
          induction n65 with
          | zero => intro x1_62 M63 hI63 hFm63 fl63 i66 i67 i68 hm69; exact absurd hm69 (Nat.not_lt_zero _)
          | succ n65 ih70 =>
            intro x1_62 M63 hI63 hFm63 fl63 i66 i67 i68 hm69
            have tr71 := fl63 63 3 rfl
            have tr72 := fl63 63 4 rfl
            have tr73 := fl63 63 5 rfl
            have tr74 := rg_63_9 hI63
            refine s_iload_n kx_201_43 rfl ?_
            refine s_iconst (v := 1) kx_201_44 (by decide) ?_
            refine s_icmp_gt (t := 83) kx_201_45 (by decide) (fun hc75 => ?_) (fun hc75 => ?_)
            · refine s_aload_n kx_201_83 rfl ?_
              refine r_getK (k := 63) (f := 7) kx_201_84 kp_201_32 (tk_63 hT) kf_12_7 (fun _ => rfl) ((fl63 63 7 rfl).trans v59e) ?_
              refine s_lstore_n kx_201_87 km_201_2 rfl ?_
              refine s_aload_n kx_201_88 rfl ?_
              refine r_getI (k := 63) (f := 9) kx_201_89 kp_201_39 (tk_63 hT) kf_12_9 (fun _ => rfl) (rg_63_9 hI63) (fun v76 v76e v76a v76b => ?_)
              refine s_if_ne (t := 99) kx_201_92 (by decide) (fun hc77 => ?_) (fun hc77 => ?_)
              · refine s_lload_n kx_201_99 rfl ?_
                have hk78 : M63 63 3 = v9 := ((fl63 63 3 rfl).trans v9e)
                have hk79 : M63 63 9 = v76 := v76e
                exact s_lret kx_201_100 kq_201 ⟨_, _, rfl, rfl, hI63, hFm63, ⟨(LXp.fr (LXp.fr hX fr2 rfl) fl63 rfl), (by omega), (by omega), (by unfold PRd; omega)⟩⟩
              · refine s_aload_n kx_201_95 rfl ?_
                refine s_callV2 (k := 63) (s1 := 1) (s2 := 0) (as := []) (rest := []) kx_201_96 kp_201_286 (Or.inl rfl) rfl (tk_63 hT) ki_180 kcl_180 rfl rfl (by decide) (m_180 (d := d) hT hI63) (kV (fun M81 hI81 fr81 v80p => ?_))
                have hFm81 := hFm63.call fr81 rfl
                have tr82 := (fr81 63 9 rfl)
                have tr83 := rg_63_9 hI81
                refine s_lload_n kx_201_99 rfl ?_
                have hk84 : M81 63 9 = v76 := ((fr81 63 9 rfl).trans v76e)
                exact s_lret kx_201_100 kq_201 ⟨_, _, rfl, rfl, hI81, hFm81, ⟨(show LXp M81 from v80p.2), (by omega), (by omega), (by unfold PRd; omega)⟩⟩
            · refine s_aload_n kx_201_48 rfl ?_
              refine r_getI (k := 63) (f := 9) kx_201_49 kp_201_39 (tk_63 hT) kf_12_9 (fun _ => rfl) (rg_63_9 hI63) (fun v85 v85e v85a v85b => ?_)
              refine s_if_ne (t := 83) kx_201_52 (by decide) (fun hc86 => ?_) (fun hc86 => ?_)
              · refine s_aload_n kx_201_83 rfl ?_
                refine r_getK (k := 63) (f := 7) kx_201_84 kp_201_32 (tk_63 hT) kf_12_7 (fun _ => rfl) ((fl63 63 7 rfl).trans v59e) ?_
                refine s_lstore_n kx_201_87 km_201_2 rfl ?_
                refine s_aload_n kx_201_88 rfl ?_
                refine r_getK (k := 63) (f := 9) kx_201_89 kp_201_39 (tk_63 hT) kf_12_9 (fun _ => rfl) v85e ?_
                refine s_if_ne (t := 99) kx_201_92 (by decide) (fun hc87 => ?_) (fun hc87 => absurd hc87 (by omega))
                refine s_lload_n kx_201_99 rfl ?_
                have hk88 : M63 63 3 = v9 := ((fl63 63 3 rfl).trans v9e)
                have hk89 : M63 63 9 = v85 := v85e
                exact s_lret kx_201_100 kq_201 ⟨_, _, rfl, rfl, hI63, hFm63, ⟨(LXp.fr (LXp.fr hX fr2 rfl) fl63 rfl), (by omega), (by omega), (by unfold PRd; omega)⟩⟩
              · refine s_aload_n kx_201_55 rfl ?_
                refine s_iload_n kx_201_56 rfl ?_
                refine s_aload_n kx_201_57 rfl ?_
                refine r_getK (k := 63) (f := 7) kx_201_58 kp_201_32 (tk_63 hT) kf_12_7 (fun _ => rfl) ((fl63 63 7 rfl).trans v59e) ?_
                refine s_callV2 (k := 63) (s1 := 4) (s2 := 0) (as := [(1, v59), (0, x1_62)]) (rest := []) kx_201_61 kp_201_379 (Or.inl rfl) rfl (tk_63 hT) ki_187 kcl_187 rfl rfl (by decide) (m_187 (d := d) (kind := x1_62) (w := v59) hT hI63) (kF (fun v90 v90p => ?_))
                refine s_iconst (v := (-1)) kx_201_64 (by decide) ?_
                refine s_icmp_eq (t := 77) kx_201_65 (by decide) (fun hc91 => ?_) (fun hc91 => ?_)
                · refine r_iinc kx_201_77 rfl km_201_1 (by decide) ⟨by omega, by omega⟩ rfl ?_
                  refine s_goto (t := 43) kx_201_80 (by decide) ?_
                  exact cP.wk (lS1 rfl (lS1 rfl lS0)) (ih70 (x1_62 + 1) M63 hI63 hFm63 fl63 (by omega) (by omega) (by omega) (by omega))
                · refine s_aload_n kx_201_68 rfl ?_
                  refine s_iconst (v := 2) kx_201_69 (by decide) ?_
                  refine s_aload_n kx_201_70 rfl ?_
                  refine r_getI (k := 63) (f := 4) kx_201_71 kp_201_23 (tk_63 hT) kf_12_4 (fun _ => rfl) (rg_63_4 hI63) (fun v92 v92e v92a v92b => ?_)
                  have v92z : M 63 4 = v92 := (((fl63 63 4 rfl).trans (fr2 63 4 rfl))).symm.trans v92e
                  refine s_callV2 (k := 63) (s1 := 3) (s2 := 0) (as := [(0, v92), (0, 2)]) (rest := []) kx_201_74 kp_201_263 (Or.inl rfl) rfl (tk_63 hT) ki_176 kcl_176 rfl rfl (by decide) (m_176 (d := d + 1) (kind := 2) (place := v92) hT hI63 (by omega)) (kV (fun M94 hI94 fr94 v93p => ?_))
                  have hFm94 := hFm63.call fr94 rfl
                  have hFl4394 := fl63.call fr94 rfl
                  have tr95 := (fr94 63 3 rfl)
                  have tr96 := (fr94 63 4 rfl)
                  have tr97 := (fr94 63 5 rfl)
                  have tr98 := rg_63_9 hI94
                  refine r_iinc kx_201_77 rfl km_201_1 (by decide) ⟨by omega, by omega⟩ rfl ?_
                  refine s_goto (t := 43) kx_201_80 (by decide) ?_
                  exact cP.wk (lS1 rfl (lS1 rfl lS0)) (ih70 (x1_62 + 1) M94 hI94 hFm94 hFl4394 (by omega) (by omega) (by omega) (by omega))
        exact cP.wk (lS1 rfl (lS1 rfl lS0)) (key64 _ 0 M2 hI2 hFm2 Fr.refl (by omega) (by omega) (by omega) (Nat.lt_succ_self _))
      · refine s_aload_n kx_201_32 rfl ?_
        refine s_iconst (v := 1) kx_201_33 (by decide) ?_
        refine s_aload_n kx_201_34 rfl ?_
        refine r_getI (k := 63) (f := 4) kx_201_35 kp_201_23 (tk_63 hT) kf_12_4 (fun _ => rfl) (rg_63_4 hI2) (fun v99 v99e v99a v99b => ?_)
        have v99z : M 63 4 = v99 := ((fr2 63 4 rfl)).symm.trans v99e
        refine s_callV2 (k := 63) (s1 := 3) (s2 := 0) (as := [(0, v99), (0, 1)]) (rest := []) kx_201_38 kp_201_263 (Or.inl rfl) rfl (tk_63 hT) ki_176 kcl_176 rfl rfl (by decide) (m_176 (d := d + 1) (kind := 1) (place := v99) hT hI2 (by omega)) (kV (fun M101 hI101 fr101 v100p => ?_))
        have hFm101 := hFm2.call fr101 rfl
        have tr102 := (fr101 63 3 rfl)
        have tr103 := (fr101 63 4 rfl)
        have tr104 := (fr101 63 5 rfl)
        have tr105 := rg_63_9 hI101
        refine s_iconst (v := 0) kx_201_41 (by decide) ?_
        refine s_istore_n kx_201_42 km_201_1 rfl ?_
        have key108 : ∀ n109 : Nat, ∀ (x1_106 : Int), ∀ M107 : cM, Rng M107 → Fr fS_201_m M M107 → Fr fS_201_l43 M101 M107 → (0 ≤ x1_106) → ((1 ≤ M107 63 9 ∨ M107 63 3 = 1)) → (M 63 9 ≤ M107 63 9) → (2147483647 - x1_106).toNat < n109 → cP k_P xs Ln (d + 2) 201 43 [(0, rf 63), (1, (0, x1_106))] [] (T, M107) (qW T M fS_201_m 1 (fun v M1 => LXp M1 ∧ M 63 4 ≤ M1 63 4 ∧ M 63 9 ≤ M1 63 9 ∧ (PRd M M1))) := by
          intro n109
          induction n109 with
          | zero => intro x1_106 M107 hI107 hFm107 fl107 i110 i111 i112 hm113; exact absurd hm113 (Nat.not_lt_zero _)
          | succ n109 ih114 =>
            intro x1_106 M107 hI107 hFm107 fl107 i110 i111 i112 hm113
            have tr115 := fl107 63 3 rfl
            have tr116 := fl107 63 4 rfl
            have tr117 := fl107 63 5 rfl
            have tr118 := rg_63_9 hI107
            refine s_iload_n kx_201_43 rfl ?_
            refine s_iconst (v := 1) kx_201_44 (by decide) ?_
            refine s_icmp_gt (t := 83) kx_201_45 (by decide) (fun hc119 => ?_) (fun hc119 => ?_)
            · refine s_aload_n kx_201_83 rfl ?_
              refine r_getK (k := 63) (f := 7) kx_201_84 kp_201_32 (tk_63 hT) kf_12_7 (fun _ => rfl) ((fl107 63 7 rfl).trans ((fr101 63 7 rfl).trans v59e)) ?_
              refine s_lstore_n kx_201_87 km_201_2 rfl ?_
              refine s_aload_n kx_201_88 rfl ?_
              refine r_getI (k := 63) (f := 9) kx_201_89 kp_201_39 (tk_63 hT) kf_12_9 (fun _ => rfl) (rg_63_9 hI107) (fun v120 v120e v120a v120b => ?_)
              refine s_if_ne (t := 99) kx_201_92 (by decide) (fun hc121 => ?_) (fun hc121 => ?_)
              · refine s_lload_n kx_201_99 rfl ?_
                have hk122 : M107 63 3 = v9 := ((fl107 63 3 rfl).trans ((fr101 63 3 rfl).trans v9e))
                have hk123 : M107 63 4 = v99 := ((fl107 63 4 rfl).trans ((fr101 63 4 rfl).trans v99e))
                have hk124 : M107 63 9 = v120 := v120e
                exact s_lret kx_201_100 kq_201 ⟨_, _, rfl, rfl, hI107, hFm107, ⟨(LXp.fr (LXp.fr (LXp.fr hX fr2 rfl) fr101 rfl) fl107 rfl), (by omega), (by omega), (by unfold PRd; omega)⟩⟩
              · refine s_aload_n kx_201_95 rfl ?_
                refine s_callV2 (k := 63) (s1 := 1) (s2 := 0) (as := []) (rest := []) kx_201_96 kp_201_286 (Or.inl rfl) rfl (tk_63 hT) ki_180 kcl_180 rfl rfl (by decide) (m_180 (d := d) hT hI107) (kV (fun M126 hI126 fr126 v125p => ?_))
                have hFm126 := hFm107.call fr126 rfl
                have tr127 := (fr126 63 9 rfl)
                have tr128 := rg_63_9 hI126
                refine s_lload_n kx_201_99 rfl ?_
                have hk129 : M126 63 9 = v120 := ((fr126 63 9 rfl).trans v120e)
                exact s_lret kx_201_100 kq_201 ⟨_, _, rfl, rfl, hI126, hFm126, ⟨(show LXp M126 from v125p.2), (by omega), (by omega), (by unfold PRd; omega)⟩⟩
            · refine s_aload_n kx_201_48 rfl ?_
              refine r_getI (k := 63) (f := 9) kx_201_49 kp_201_39 (tk_63 hT) kf_12_9 (fun _ => rfl) (rg_63_9 hI107) (fun v130 v130e v130a v130b => ?_)
              refine s_if_ne (t := 83) kx_201_52 (by decide) (fun hc131 => ?_) (fun hc131 => ?_)
              · refine s_aload_n kx_201_83 rfl ?_
                refine r_getK (k := 63) (f := 7) kx_201_84 kp_201_32 (tk_63 hT) kf_12_7 (fun _ => rfl) ((fl107 63 7 rfl).trans ((fr101 63 7 rfl).trans v59e)) ?_
                refine s_lstore_n kx_201_87 km_201_2 rfl ?_
                refine s_aload_n kx_201_88 rfl ?_
                refine r_getK (k := 63) (f := 9) kx_201_89 kp_201_39 (tk_63 hT) kf_12_9 (fun _ => rfl) v130e ?_
                refine s_if_ne (t := 99) kx_201_92 (by decide) (fun hc132 => ?_) (fun hc132 => absurd hc132 (by omega))
                refine s_lload_n kx_201_99 rfl ?_
                have hk133 : M107 63 3 = v9 := ((fl107 63 3 rfl).trans ((fr101 63 3 rfl).trans v9e))
                have hk134 : M107 63 4 = v99 := ((fl107 63 4 rfl).trans ((fr101 63 4 rfl).trans v99e))
                have hk135 : M107 63 9 = v130 := v130e
                exact s_lret kx_201_100 kq_201 ⟨_, _, rfl, rfl, hI107, hFm107, ⟨(LXp.fr (LXp.fr (LXp.fr hX fr2 rfl) fr101 rfl) fl107 rfl), (by omega), (by omega), (by unfold PRd; omega)⟩⟩
              · refine s_aload_n kx_201_55 rfl ?_
                refine s_iload_n kx_201_56 rfl ?_
                refine s_aload_n kx_201_57 rfl ?_
                refine r_getK (k := 63) (f := 7) kx_201_58 kp_201_32 (tk_63 hT) kf_12_7 (fun _ => rfl) ((fl107 63 7 rfl).trans ((fr101 63 7 rfl).trans v59e)) ?_
                refine s_callV2 (k := 63) (s1 := 4) (s2 := 0) (as := [(1, v59), (0, x1_106)]) (rest := []) kx_201_61 kp_201_379 (Or.inl rfl) rfl (tk_63 hT) ki_187 kcl_187 rfl rfl (by decide) (m_187 (d := d) (kind := x1_106) (w := v59) hT hI107) (kF (fun v136 v136p => ?_))
                refine s_iconst (v := (-1)) kx_201_64 (by decide) ?_
                refine s_icmp_eq (t := 77) kx_201_65 (by decide) (fun hc137 => ?_) (fun hc137 => ?_)
                · refine r_iinc kx_201_77 rfl km_201_1 (by decide) ⟨by omega, by omega⟩ rfl ?_
                  refine s_goto (t := 43) kx_201_80 (by decide) ?_
                  exact cP.wk (lS1 rfl (lS1 rfl lS0)) (ih114 (x1_106 + 1) M107 hI107 hFm107 fl107 (by omega) (by omega) (by omega) (by omega))
                · refine s_aload_n kx_201_68 rfl ?_
                  refine s_iconst (v := 2) kx_201_69 (by decide) ?_
                  refine s_aload_n kx_201_70 rfl ?_
                  refine r_getK (k := 63) (f := 4) kx_201_71 kp_201_23 (tk_63 hT) kf_12_4 (fun _ => rfl) ((fl107 63 4 rfl).trans ((fr101 63 4 rfl).trans v99e)) ?_
                  refine s_callV2 (k := 63) (s1 := 3) (s2 := 0) (as := [(0, v99), (0, 2)]) (rest := []) kx_201_74 kp_201_263 (Or.inl rfl) rfl (tk_63 hT) ki_176 kcl_176 rfl rfl (by decide) (m_176 (d := d + 1) (kind := 2) (place := v99) hT hI107 (by omega)) (kV (fun M139 hI139 fr139 v138p => ?_))
                  have hFm139 := hFm107.call fr139 rfl
                  have hFl43139 := fl107.call fr139 rfl
                  have tr140 := (fr139 63 3 rfl)
                  have tr141 := (fr139 63 4 rfl)
                  have tr142 := (fr139 63 5 rfl)
                  have tr143 := rg_63_9 hI139
                  refine r_iinc kx_201_77 rfl km_201_1 (by decide) ⟨by omega, by omega⟩ rfl ?_
                  refine s_goto (t := 43) kx_201_80 (by decide) ?_
                  exact cP.wk (lS1 rfl (lS1 rfl lS0)) (ih114 (x1_106 + 1) M139 hI139 hFm139 hFl43139 (by omega) (by omega) (by omega) (by omega))
        exact cP.wk (lS1 rfl (lS1 rfl lS0)) (key108 _ 0 M101 hI101 hFm101 Fr.refl (by omega) (by omega) (by omega) (Nat.lt_succ_self _))
  · refine s_lconst (v := 0) kx_201_11 (by decide) ?_
    have hk144 : M2 63 9 = v7 := v7e
    exact s_lret kx_201_12 kq_201 ⟨_, _, rfl, rfl, hI2, hFm2, ⟨(LXp.fr hX fr2 rfl), (by omega), (by omega), (by unfold PRd; omega)⟩⟩
theorem kx_202_0 : x_code k_P 202 0 = some (.aload_n 0, 1) := by decide +kernel
theorem kx_202_1 : x_code k_P 202 1 = some (.invokevirtual 280, 3) := by decide +kernel
theorem kp_202_280 : x_pool k_P 202 280 = (2, 179, 0) := by decide +kernel
theorem kx_202_4 : x_code k_P 202 4 = some (.aload_n 0, 1) := by decide +kernel
theorem kx_202_5 : x_code k_P 202 5 = some (.getfield 39, 3) := by decide +kernel
theorem kp_202_39 : x_pool k_P 202 39 = (1, 12, 9) := by decide +kernel
theorem kx_202_8 : x_code k_P 202 8 = some (.ifCond .le 5, 3) := by decide +kernel
theorem kx_202_13 : x_code k_P 202 13 = some (.aload_n 0, 1) := by decide +kernel
theorem kx_202_14 : x_code k_P 202 14 = some (.getfield 20, 3) := by decide +kernel
theorem kp_202_20 : x_pool k_P 202 20 = (1, 12, 3) := by decide +kernel
theorem kx_202_17 : x_code k_P 202 17 = some (.iconst 1, 1) := by decide +kernel
theorem kx_202_18 : x_code k_P 202 18 = some (.if_icmp .ne 14, 3) := by decide +kernel
theorem kx_202_32 : x_code k_P 202 32 = some (.aload_n 0, 1) := by decide +kernel
theorem kx_202_33 : x_code k_P 202 33 = some (.iconst 1, 1) := by decide +kernel
theorem kx_202_34 : x_code k_P 202 34 = some (.aload_n 0, 1) := by decide +kernel
theorem kx_202_35 : x_code k_P 202 35 = some (.getfield 23, 3) := by decide +kernel
theorem kp_202_23 : x_pool k_P 202 23 = (1, 12, 4) := by decide +kernel
theorem kx_202_38 : x_code k_P 202 38 = some (.invokevirtual 263, 3) := by decide +kernel
theorem kp_202_263 : x_pool k_P 202 263 = (2, 176, 2) := by decide +kernel
theorem kx_202_41 : x_code k_P 202 41 = some (.aload_n 0, 1) := by decide +kernel
theorem kx_202_42 : x_code k_P 202 42 = some (.getfield 39, 3) := by decide +kernel
theorem kx_202_45 : x_code k_P 202 45 = some (.ifCond .le 7, 3) := by decide +kernel
theorem kx_202_52 : x_code k_P 202 52 = some (.aload_n 0, 1) := by decide +kernel
theorem kx_202_53 : x_code k_P 202 53 = some (.iload_n 1, 1) := by decide +kernel
theorem kx_202_54 : x_code k_P 202 54 = some (.aload_n 0, 1) := by decide +kernel
theorem kx_202_55 : x_code k_P 202 55 = some (.getfield 32, 3) := by decide +kernel
theorem kp_202_32 : x_pool k_P 202 32 = (1, 12, 7) := by decide +kernel
theorem kx_202_58 : x_code k_P 202 58 = some (.invokevirtual 379, 3) := by decide +kernel
theorem kp_202_379 : x_pool k_P 202 379 = (2, 187, 2) := by decide +kernel
theorem kx_202_61 : x_code k_P 202 61 = some (.istore_n 2, 1) := by decide +kernel
theorem km_202_2 : 2 < x_maxL k_P 202 := by decide +kernel
theorem kx_202_62 : x_code k_P 202 62 = some (.aload_n 0, 1) := by decide +kernel
theorem kx_202_63 : x_code k_P 202 63 = some (.getfield 39, 3) := by decide +kernel
theorem kx_202_66 : x_code k_P 202 66 = some (.ifCond .ne 17, 3) := by decide +kernel
theorem kx_202_69 : x_code k_P 202 69 = some (.iload_n 2, 1) := by decide +kernel
theorem kx_202_70 : x_code k_P 202 70 = some (.iconst (-1), 1) := by decide +kernel
theorem kx_202_71 : x_code k_P 202 71 = some (.if_icmp .ne 12, 3) := by decide +kernel
theorem kx_202_83 : x_code k_P 202 83 = some (.aload_n 0, 1) := by decide +kernel
theorem kx_202_84 : x_code k_P 202 84 = some (.getfield 39, 3) := by decide +kernel
theorem kx_202_87 : x_code k_P 202 87 = some (.ifCond .le 7, 3) := by decide +kernel
theorem kx_202_94 : x_code k_P 202 94 = some (.iload_n 2, 1) := by decide +kernel
theorem kx_202_95 : x_code k_P 202 95 = some (.ireturn, 1) := by decide +kernel
theorem kq_202 : x_retk k_P 202 = 1 := by decide +kernel
theorem kx_202_74 : x_code k_P 202 74 = some (.aload_n 0, 1) := by decide +kernel
theorem kx_202_75 : x_code k_P 202 75 = some (.iconst 3, 1) := by decide +kernel
theorem kx_202_76 : x_code k_P 202 76 = some (.aload_n 0, 1) := by decide +kernel
theorem kx_202_77 : x_code k_P 202 77 = some (.getfield 23, 3) := by decide +kernel
theorem kx_202_80 : x_code k_P 202 80 = some (.invokevirtual 263, 3) := by decide +kernel
theorem kx_202_90 : x_code k_P 202 90 = some (.iconst 0, 1) := by decide +kernel
theorem kx_202_91 : x_code k_P 202 91 = some (.goto 4, 3) := by decide +kernel
theorem kx_202_48 : x_code k_P 202 48 = some (.iconst 0, 1) := by decide +kernel
theorem kx_202_49 : x_code k_P 202 49 = some (.goto 12, 3) := by decide +kernel
theorem kx_202_21 : x_code k_P 202 21 = some (.aload_n 0, 1) := by decide +kernel
theorem kx_202_22 : x_code k_P 202 22 = some (.aload_n 0, 1) := by decide +kernel
theorem kx_202_23 : x_code k_P 202 23 = some (.getfield 32, 3) := by decide +kernel
theorem kx_202_26 : x_code k_P 202 26 = some (.invokevirtual 276, 3) := by decide +kernel
theorem kp_202_276 : x_pool k_P 202 276 = (2, 184, 1) := by decide +kernel
theorem kx_202_29 : x_code k_P 202 29 = some (.ifCond .eq 12, 3) := by decide +kernel
theorem kx_202_11 : x_code k_P 202 11 = some (.iconst 0, 1) := by decide +kernel
theorem kx_202_12 : x_code k_P 202 12 = some (.ireturn, 1) := by decide +kernel
def fS_202_m : List (Nat × Nat) := [(63, 10), (63, 9)]
theorem m_202 {xs : Nat → Int} {Ln d : Nat} {T : List cK} {M : cM} (hT : TT T) (hI : Rng M) {kind : Int} : cC k_P xs Ln (d + 2) 202 [rf 63, (0, kind)] (T, M) (qW T M fS_202_m 0 (fun v M1 => 0 ≤ v ∧ v ≤ 7 ∧ (M 63 9 ≤ M1 63 9 ∧ (1 ≤ M1 63 9 ∨ M1 63 3 = 1)))) := by
  show cP k_P xs Ln (d + 2) 202 0 [(0, rf 63), (1, (0, kind))] [] (T, M) _
  have hFm : Fr fS_202_m M M := Fr.refl
  have h639 := rg_63_9 hI
  refine s_aload_n kx_202_0 rfl ?_
  refine s_callV2 (k := 63) (s1 := 1) (s2 := 0) (as := []) (rest := []) kx_202_1 kp_202_280 (Or.inl rfl) rfl (tk_63 hT) ki_179 kcl_179 rfl rfl (by decide) (m_179 (d := d) hT hI) (kV (fun M2 hI2 fr2 v1p => ?_))
  have hFm2 := hFm.call fr2 rfl
  have tr3 := (fr2 63 3 rfl)
  have tr4 := (fr2 63 4 rfl)
  have tr5 := (fr2 63 5 rfl)
  have tr6 := rg_63_9 hI2
  refine s_aload_n kx_202_4 rfl ?_
  refine r_getI (k := 63) (f := 9) kx_202_5 kp_202_39 (tk_63 hT) kf_12_9 (fun _ => rfl) (rg_63_9 hI2) (fun v7 v7e v7a v7b => ?_)
  refine s_if_le (t := 13) kx_202_8 (by decide) (fun hc8 => ?_) (fun hc8 => ?_)
  · refine s_aload_n kx_202_13 rfl ?_
    refine r_getI (k := 63) (f := 3) kx_202_14 kp_202_20 (tk_63 hT) kf_12_3 (fun _ => rfl) (rg_63_3 hI2) (fun v9 v9e v9a v9b => ?_)
    have v9z : M 63 3 = v9 := ((fr2 63 3 rfl)).symm.trans v9e
    refine s_iconst (v := 1) kx_202_17 (by decide) ?_
    refine s_icmp_ne (t := 32) kx_202_18 (by decide) (fun hc10 => ?_) (fun hc10 => ?_)
    · refine s_aload_n kx_202_32 rfl ?_
      refine s_iconst (v := 1) kx_202_33 (by decide) ?_
      refine s_aload_n kx_202_34 rfl ?_
      refine r_getI (k := 63) (f := 4) kx_202_35 kp_202_23 (tk_63 hT) kf_12_4 (fun _ => rfl) (rg_63_4 hI2) (fun v11 v11e v11a v11b => ?_)
      have v11z : M 63 4 = v11 := ((fr2 63 4 rfl)).symm.trans v11e
      refine s_callV2 (k := 63) (s1 := 3) (s2 := 0) (as := [(0, v11), (0, 1)]) (rest := []) kx_202_38 kp_202_263 (Or.inl rfl) rfl (tk_63 hT) ki_176 kcl_176 rfl rfl (by decide) (m_176 (d := d + 1) (kind := 1) (place := v11) hT hI2 (by omega)) (kV (fun M13 hI13 fr13 v12p => ?_))
      have hFm13 := hFm2.call fr13 rfl
      have tr14 := (fr13 63 3 rfl)
      have tr15 := (fr13 63 4 rfl)
      have tr16 := (fr13 63 5 rfl)
      have tr17 := rg_63_9 hI13
      refine s_aload_n kx_202_41 rfl ?_
      refine r_getI (k := 63) (f := 9) kx_202_42 kp_202_39 (tk_63 hT) kf_12_9 (fun _ => rfl) (rg_63_9 hI13) (fun v18 v18e v18a v18b => ?_)
      refine s_if_le (t := 52) kx_202_45 (by decide) (fun hc19 => ?_) (fun hc19 => ?_)
      · refine s_aload_n kx_202_52 rfl ?_
        refine s_iload_n kx_202_53 rfl ?_
        refine s_aload_n kx_202_54 rfl ?_
        refine r_getU (k := 63) (f := 7) kx_202_55 kp_202_32 (tk_63 hT) kf_12_7 (fun _ => rfl) (fun v20 v20e => ?_)
        have v20z : M 63 7 = v20 := (((fr13 63 7 rfl).trans (fr2 63 7 rfl))).symm.trans v20e
        refine s_callV2 (k := 63) (s1 := 4) (s2 := 0) (as := [(1, v20), (0, kind)]) (rest := []) kx_202_58 kp_202_379 (Or.inl rfl) rfl (tk_63 hT) ki_187 kcl_187 rfl rfl (by decide) (m_187 (d := d) (kind := kind) (w := v20) hT hI13) (kF (fun v21 v21p => ?_))
        refine s_istore_n kx_202_61 km_202_2 rfl ?_
        refine s_aload_n kx_202_62 rfl ?_
        refine r_getK (k := 63) (f := 9) kx_202_63 kp_202_39 (tk_63 hT) kf_12_9 (fun _ => rfl) v18e ?_
        refine s_if_ne (t := 83) kx_202_66 (by decide) (fun hc22 => absurd hc22 (by omega)) (fun hc22 => ?_)
        refine s_iload_n kx_202_69 rfl ?_
        refine s_iconst (v := (-1)) kx_202_70 (by decide) ?_
        refine s_icmp_ne (t := 83) kx_202_71 (by decide) (fun hc23 => ?_) (fun hc23 => ?_)
        · refine s_aload_n kx_202_83 rfl ?_
          refine r_getK (k := 63) (f := 9) kx_202_84 kp_202_39 (tk_63 hT) kf_12_9 (fun _ => rfl) v18e ?_
          refine s_if_le (t := 94) kx_202_87 (by decide) (fun hc24 => ?_) (fun hc24 => absurd hc24 (by omega))
          refine s_iload_n kx_202_94 rfl ?_
          have hk25 : M13 63 3 = v9 := ((fr13 63 3 rfl).trans v9e)
          have hk26 : M13 63 4 = v11 := ((fr13 63 4 rfl).trans v11e)
          have hk27 : M13 63 9 = v18 := v18e
          exact s_iret kx_202_95 (Or.inl kq_202) ⟨_, _, rfl, rfl, hI13, hFm13, (by omega)⟩
        · refine s_aload_n kx_202_74 rfl ?_
          refine s_iconst (v := 3) kx_202_75 (by decide) ?_
          refine s_aload_n kx_202_76 rfl ?_
          refine r_getK (k := 63) (f := 4) kx_202_77 kp_202_23 (tk_63 hT) kf_12_4 (fun _ => rfl) ((fr13 63 4 rfl).trans v11e) ?_
          refine s_callV2 (k := 63) (s1 := 3) (s2 := 0) (as := [(0, v11), (0, 3)]) (rest := []) kx_202_80 kp_202_263 (Or.inl rfl) rfl (tk_63 hT) ki_176 kcl_176 rfl rfl (by decide) (m_176 (d := d + 1) (kind := 3) (place := v11) hT hI13 (by omega)) (kV (fun M29 hI29 fr29 v28p => ?_))
          have hFm29 := hFm13.call fr29 rfl
          have tr30 := (fr29 63 3 rfl)
          have tr31 := (fr29 63 4 rfl)
          have tr32 := (fr29 63 5 rfl)
          have tr33 := rg_63_9 hI29
          refine s_aload_n kx_202_83 rfl ?_
          refine r_getI (k := 63) (f := 9) kx_202_84 kp_202_39 (tk_63 hT) kf_12_9 (fun _ => rfl) (rg_63_9 hI29) (fun v34 v34e v34a v34b => ?_)
          refine s_if_le (t := 94) kx_202_87 (by decide) (fun hc35 => ?_) (fun hc35 => ?_)
          · refine s_iload_n kx_202_94 rfl ?_
            have hk36 : M29 63 3 = v9 := ((fr29 63 3 rfl).trans ((fr13 63 3 rfl).trans v9e))
            have hk37 : M29 63 4 = v11 := ((fr29 63 4 rfl).trans ((fr13 63 4 rfl).trans v11e))
            have hk38 : M29 63 9 = v34 := v34e
            exact s_iret kx_202_95 (Or.inl kq_202) ⟨_, _, rfl, rfl, hI29, hFm29, (by omega)⟩
          · refine s_iconst (v := 0) kx_202_90 (by decide) ?_
            refine s_goto (t := 95) kx_202_91 (by decide) ?_
            have hk39 : M29 63 3 = v9 := ((fr29 63 3 rfl).trans ((fr13 63 3 rfl).trans v9e))
            have hk40 : M29 63 4 = v11 := ((fr29 63 4 rfl).trans ((fr13 63 4 rfl).trans v11e))
            have hk41 : M29 63 9 = v34 := v34e
            exact s_iret kx_202_95 (Or.inl kq_202) ⟨_, _, rfl, rfl, hI29, hFm29, (by omega)⟩
      · refine s_iconst (v := 0) kx_202_48 (by decide) ?_
        refine s_goto (t := 61) kx_202_49 (by decide) ?_
        refine s_istore_n kx_202_61 km_202_2 rfl ?_
        refine s_aload_n kx_202_62 rfl ?_
        refine r_getK (k := 63) (f := 9) kx_202_63 kp_202_39 (tk_63 hT) kf_12_9 (fun _ => rfl) v18e ?_
        refine s_if_ne (t := 83) kx_202_66 (by decide) (fun hc42 => ?_) (fun hc42 => absurd hc42 (by omega))
        refine s_aload_n kx_202_83 rfl ?_
        refine r_getK (k := 63) (f := 9) kx_202_84 kp_202_39 (tk_63 hT) kf_12_9 (fun _ => rfl) v18e ?_
        refine s_if_le (t := 94) kx_202_87 (by decide) (fun hc43 => absurd hc43 (by omega)) (fun hc43 => ?_)
        refine s_iconst (v := 0) kx_202_90 (by decide) ?_
        refine s_goto (t := 95) kx_202_91 (by decide) ?_
        have hk44 : M13 63 3 = v9 := ((fr13 63 3 rfl).trans v9e)
        have hk45 : M13 63 4 = v11 := ((fr13 63 4 rfl).trans v11e)
        have hk46 : M13 63 9 = v18 := v18e
        exact s_iret kx_202_95 (Or.inl kq_202) ⟨_, _, rfl, rfl, hI13, hFm13, (by omega)⟩
    · refine s_aload_n kx_202_21 rfl ?_
      refine s_aload_n kx_202_22 rfl ?_
      refine r_getU (k := 63) (f := 7) kx_202_23 kp_202_32 (tk_63 hT) kf_12_7 (fun _ => rfl) (fun v47 v47e => ?_)
      have v47z : M 63 7 = v47 := ((fr2 63 7 rfl)).symm.trans v47e
      refine s_callV2 (k := 63) (s1 := 3) (s2 := 0) (as := [(1, v47)]) (rest := []) kx_202_26 kp_202_276 (Or.inl rfl) rfl (tk_63 hT) ki_184 kcl_184 rfl rfl (by decide) (m_184 (d := d + 1) (w := v47) hT hI2) (kF (fun v48 v48p => ?_))
      refine s_if_eq (t := 41) kx_202_29 (by decide) (fun hc49 => ?_) (fun hc49 => ?_)
      · refine s_aload_n kx_202_41 rfl ?_
        refine r_getK (k := 63) (f := 9) kx_202_42 kp_202_39 (tk_63 hT) kf_12_9 (fun _ => rfl) v7e ?_
        refine s_if_le (t := 52) kx_202_45 (by decide) (fun hc50 => ?_) (fun hc50 => absurd hc50 (by omega))
        refine s_aload_n kx_202_52 rfl ?_
        refine s_iload_n kx_202_53 rfl ?_
        refine s_aload_n kx_202_54 rfl ?_
        refine r_getK (k := 63) (f := 7) kx_202_55 kp_202_32 (tk_63 hT) kf_12_7 (fun _ => rfl) v47e ?_
        refine s_callV2 (k := 63) (s1 := 4) (s2 := 0) (as := [(1, v47), (0, kind)]) (rest := []) kx_202_58 kp_202_379 (Or.inl rfl) rfl (tk_63 hT) ki_187 kcl_187 rfl rfl (by decide) (m_187 (d := d) (kind := kind) (w := v47) hT hI2) (kF (fun v51 v51p => ?_))
        refine s_istore_n kx_202_61 km_202_2 rfl ?_
        refine s_aload_n kx_202_62 rfl ?_
        refine r_getK (k := 63) (f := 9) kx_202_63 kp_202_39 (tk_63 hT) kf_12_9 (fun _ => rfl) v7e ?_
        refine s_if_ne (t := 83) kx_202_66 (by decide) (fun hc52 => absurd hc52 (by omega)) (fun hc52 => ?_)
        refine s_iload_n kx_202_69 rfl ?_
        refine s_iconst (v := (-1)) kx_202_70 (by decide) ?_
        refine s_icmp_ne (t := 83) kx_202_71 (by decide) (fun hc53 => ?_) (fun hc53 => ?_)
        · refine s_aload_n kx_202_83 rfl ?_
          refine r_getK (k := 63) (f := 9) kx_202_84 kp_202_39 (tk_63 hT) kf_12_9 (fun _ => rfl) v7e ?_
          refine s_if_le (t := 94) kx_202_87 (by decide) (fun hc54 => ?_) (fun hc54 => absurd hc54 (by omega))
          refine s_iload_n kx_202_94 rfl ?_
          have hk55 : M2 63 3 = v9 := v9e
          have hk56 : M2 63 9 = v7 := v7e
          exact s_iret kx_202_95 (Or.inl kq_202) ⟨_, _, rfl, rfl, hI2, hFm2, (by omega)⟩
        · refine s_aload_n kx_202_74 rfl ?_
          refine s_iconst (v := 3) kx_202_75 (by decide) ?_
          refine s_aload_n kx_202_76 rfl ?_
          refine r_getI (k := 63) (f := 4) kx_202_77 kp_202_23 (tk_63 hT) kf_12_4 (fun _ => rfl) (rg_63_4 hI2) (fun v57 v57e v57a v57b => ?_)
          have v57z : M 63 4 = v57 := ((fr2 63 4 rfl)).symm.trans v57e
          refine s_callV2 (k := 63) (s1 := 3) (s2 := 0) (as := [(0, v57), (0, 3)]) (rest := []) kx_202_80 kp_202_263 (Or.inl rfl) rfl (tk_63 hT) ki_176 kcl_176 rfl rfl (by decide) (m_176 (d := d + 1) (kind := 3) (place := v57) hT hI2 (by omega)) (kV (fun M59 hI59 fr59 v58p => ?_))
          have hFm59 := hFm2.call fr59 rfl
          have tr60 := (fr59 63 3 rfl)
          have tr61 := (fr59 63 4 rfl)
          have tr62 := (fr59 63 5 rfl)
          have tr63 := rg_63_9 hI59
          refine s_aload_n kx_202_83 rfl ?_
          refine r_getI (k := 63) (f := 9) kx_202_84 kp_202_39 (tk_63 hT) kf_12_9 (fun _ => rfl) (rg_63_9 hI59) (fun v64 v64e v64a v64b => ?_)
          refine s_if_le (t := 94) kx_202_87 (by decide) (fun hc65 => ?_) (fun hc65 => ?_)
          · refine s_iload_n kx_202_94 rfl ?_
            have hk66 : M59 63 3 = v9 := ((fr59 63 3 rfl).trans v9e)
            have hk67 : M59 63 4 = v57 := ((fr59 63 4 rfl).trans v57e)
            have hk68 : M59 63 9 = v64 := v64e
            exact s_iret kx_202_95 (Or.inl kq_202) ⟨_, _, rfl, rfl, hI59, hFm59, (by omega)⟩
          · refine s_iconst (v := 0) kx_202_90 (by decide) ?_
            refine s_goto (t := 95) kx_202_91 (by decide) ?_
            have hk69 : M59 63 3 = v9 := ((fr59 63 3 rfl).trans v9e)
            have hk70 : M59 63 4 = v57 := ((fr59 63 4 rfl).trans v57e)
            have hk71 : M59 63 9 = v64 := v64e
            exact s_iret kx_202_95 (Or.inl kq_202) ⟨_, _, rfl, rfl, hI59, hFm59, (by omega)⟩
      · refine s_aload_n kx_202_32 rfl ?_
        refine s_iconst (v := 1) kx_202_33 (by decide) ?_
        refine s_aload_n kx_202_34 rfl ?_
        refine r_getI (k := 63) (f := 4) kx_202_35 kp_202_23 (tk_63 hT) kf_12_4 (fun _ => rfl) (rg_63_4 hI2) (fun v72 v72e v72a v72b => ?_)
        have v72z : M 63 4 = v72 := ((fr2 63 4 rfl)).symm.trans v72e
        refine s_callV2 (k := 63) (s1 := 3) (s2 := 0) (as := [(0, v72), (0, 1)]) (rest := []) kx_202_38 kp_202_263 (Or.inl rfl) rfl (tk_63 hT) ki_176 kcl_176 rfl rfl (by decide) (m_176 (d := d + 1) (kind := 1) (place := v72) hT hI2 (by omega)) (kV (fun M74 hI74 fr74 v73p => ?_))
        have hFm74 := hFm2.call fr74 rfl
        have tr75 := (fr74 63 3 rfl)
        have tr76 := (fr74 63 4 rfl)
        have tr77 := (fr74 63 5 rfl)
        have tr78 := rg_63_9 hI74
        refine s_aload_n kx_202_41 rfl ?_
        refine r_getI (k := 63) (f := 9) kx_202_42 kp_202_39 (tk_63 hT) kf_12_9 (fun _ => rfl) (rg_63_9 hI74) (fun v79 v79e v79a v79b => ?_)
        refine s_if_le (t := 52) kx_202_45 (by decide) (fun hc80 => ?_) (fun hc80 => ?_)
        · refine s_aload_n kx_202_52 rfl ?_
          refine s_iload_n kx_202_53 rfl ?_
          refine s_aload_n kx_202_54 rfl ?_
          refine r_getK (k := 63) (f := 7) kx_202_55 kp_202_32 (tk_63 hT) kf_12_7 (fun _ => rfl) ((fr74 63 7 rfl).trans v47e) ?_
          refine s_callV2 (k := 63) (s1 := 4) (s2 := 0) (as := [(1, v47), (0, kind)]) (rest := []) kx_202_58 kp_202_379 (Or.inl rfl) rfl (tk_63 hT) ki_187 kcl_187 rfl rfl (by decide) (m_187 (d := d) (kind := kind) (w := v47) hT hI74) (kF (fun v81 v81p => ?_))
          refine s_istore_n kx_202_61 km_202_2 rfl ?_
          refine s_aload_n kx_202_62 rfl ?_
          refine r_getK (k := 63) (f := 9) kx_202_63 kp_202_39 (tk_63 hT) kf_12_9 (fun _ => rfl) v79e ?_
          refine s_if_ne (t := 83) kx_202_66 (by decide) (fun hc82 => absurd hc82 (by omega)) (fun hc82 => ?_)
          refine s_iload_n kx_202_69 rfl ?_
          refine s_iconst (v := (-1)) kx_202_70 (by decide) ?_
          refine s_icmp_ne (t := 83) kx_202_71 (by decide) (fun hc83 => ?_) (fun hc83 => ?_)
          · refine s_aload_n kx_202_83 rfl ?_
            refine r_getK (k := 63) (f := 9) kx_202_84 kp_202_39 (tk_63 hT) kf_12_9 (fun _ => rfl) v79e ?_
            refine s_if_le (t := 94) kx_202_87 (by decide) (fun hc84 => ?_) (fun hc84 => absurd hc84 (by omega))
            refine s_iload_n kx_202_94 rfl ?_
            have hk85 : M74 63 3 = v9 := ((fr74 63 3 rfl).trans v9e)
            have hk86 : M74 63 4 = v72 := ((fr74 63 4 rfl).trans v72e)
            have hk87 : M74 63 9 = v79 := v79e
            exact s_iret kx_202_95 (Or.inl kq_202) ⟨_, _, rfl, rfl, hI74, hFm74, (by omega)⟩
          · refine s_aload_n kx_202_74 rfl ?_
            refine s_iconst (v := 3) kx_202_75 (by decide) ?_
            refine s_aload_n kx_202_76 rfl ?_
            refine r_getK (k := 63) (f := 4) kx_202_77 kp_202_23 (tk_63 hT) kf_12_4 (fun _ => rfl) ((fr74 63 4 rfl).trans v72e) ?_
            refine s_callV2 (k := 63) (s1 := 3) (s2 := 0) (as := [(0, v72), (0, 3)]) (rest := []) kx_202_80 kp_202_263 (Or.inl rfl) rfl (tk_63 hT) ki_176 kcl_176 rfl rfl (by decide) (m_176 (d := d + 1) (kind := 3) (place := v72) hT hI74 (by omega)) (kV (fun M89 hI89 fr89 v88p => ?_))
            have hFm89 := hFm74.call fr89 rfl
            have tr90 := (fr89 63 3 rfl)
            have tr91 := (fr89 63 4 rfl)
            have tr92 := (fr89 63 5 rfl)
            have tr93 := rg_63_9 hI89
            refine s_aload_n kx_202_83 rfl ?_
            refine r_getI (k := 63) (f := 9) kx_202_84 kp_202_39 (tk_63 hT) kf_12_9 (fun _ => rfl) (rg_63_9 hI89) (fun v94 v94e v94a v94b => ?_)
            refine s_if_le (t := 94) kx_202_87 (by decide) (fun hc95 => ?_) (fun hc95 => ?_)
            · refine s_iload_n kx_202_94 rfl ?_
              have hk96 : M89 63 3 = v9 := ((fr89 63 3 rfl).trans ((fr74 63 3 rfl).trans v9e))
              have hk97 : M89 63 4 = v72 := ((fr89 63 4 rfl).trans ((fr74 63 4 rfl).trans v72e))
              have hk98 : M89 63 9 = v94 := v94e
              exact s_iret kx_202_95 (Or.inl kq_202) ⟨_, _, rfl, rfl, hI89, hFm89, (by omega)⟩
            · refine s_iconst (v := 0) kx_202_90 (by decide) ?_
              refine s_goto (t := 95) kx_202_91 (by decide) ?_
              have hk99 : M89 63 3 = v9 := ((fr89 63 3 rfl).trans ((fr74 63 3 rfl).trans v9e))
              have hk100 : M89 63 4 = v72 := ((fr89 63 4 rfl).trans ((fr74 63 4 rfl).trans v72e))
              have hk101 : M89 63 9 = v94 := v94e
              exact s_iret kx_202_95 (Or.inl kq_202) ⟨_, _, rfl, rfl, hI89, hFm89, (by omega)⟩
        · refine s_iconst (v := 0) kx_202_48 (by decide) ?_
          refine s_goto (t := 61) kx_202_49 (by decide) ?_
          refine s_istore_n kx_202_61 km_202_2 rfl ?_
          refine s_aload_n kx_202_62 rfl ?_
          refine r_getK (k := 63) (f := 9) kx_202_63 kp_202_39 (tk_63 hT) kf_12_9 (fun _ => rfl) v79e ?_
          refine s_if_ne (t := 83) kx_202_66 (by decide) (fun hc102 => ?_) (fun hc102 => absurd hc102 (by omega))
          refine s_aload_n kx_202_83 rfl ?_
          refine r_getK (k := 63) (f := 9) kx_202_84 kp_202_39 (tk_63 hT) kf_12_9 (fun _ => rfl) v79e ?_
          refine s_if_le (t := 94) kx_202_87 (by decide) (fun hc103 => absurd hc103 (by omega)) (fun hc103 => ?_)
          refine s_iconst (v := 0) kx_202_90 (by decide) ?_
          refine s_goto (t := 95) kx_202_91 (by decide) ?_
          have hk104 : M74 63 3 = v9 := ((fr74 63 3 rfl).trans v9e)
          have hk105 : M74 63 4 = v72 := ((fr74 63 4 rfl).trans v72e)
          have hk106 : M74 63 9 = v79 := v79e
          exact s_iret kx_202_95 (Or.inl kq_202) ⟨_, _, rfl, rfl, hI74, hFm74, (by omega)⟩
  · refine s_iconst (v := 0) kx_202_11 (by decide) ?_
    have hk107 : M2 63 9 = v7 := v7e
    exact s_iret kx_202_12 (Or.inl kq_202) ⟨_, _, rfl, rfl, hI2, hFm2, (by omega)⟩
theorem kx_203_0 : x_code k_P 203 0 = some (.aload_n 0, 1) := by decide +kernel
theorem kx_203_1 : x_code k_P 203 1 = some (.iload_n 1, 1) := by decide +kernel
theorem kx_203_2 : x_code k_P 203 2 = some (.invokevirtual 383, 3) := by decide +kernel
theorem kp_203_383 : x_pool k_P 203 383 = (2, 202, 1) := by decide +kernel
theorem ki_202 : x_mci k_P 202 = 12 := by decide +kernel
theorem kcl_202 : x_maxL k_P 202 ≤ 60 ∧ 2 ≤ x_maxL k_P 202 := by decide +kernel
theorem kx_203_5 : x_code k_P 203 5 = some (.istore_n 2, 1) := by decide +kernel
theorem km_203_2 : 2 < x_maxL k_P 203 := by decide +kernel
theorem kx_203_6 : x_code k_P 203 6 = some (.aload_n 0, 1) := by decide +kernel
theorem kx_203_7 : x_code k_P 203 7 = some (.getfield 39, 3) := by decide +kernel
theorem kp_203_39 : x_pool k_P 203 39 = (1, 12, 9) := by decide +kernel
theorem kx_203_10 : x_code k_P 203 10 = some (.ifCond .ne 7, 3) := by decide +kernel
theorem kx_203_17 : x_code k_P 203 17 = some (.aload_n 0, 1) := by decide +kernel
theorem kx_203_18 : x_code k_P 203 18 = some (.getfield 39, 3) := by decide +kernel
theorem kx_203_21 : x_code k_P 203 21 = some (.ifCond .le 7, 3) := by decide +kernel
theorem kx_203_24 : x_code k_P 203 24 = some (.iconst 0, 1) := by decide +kernel
theorem kx_203_25 : x_code k_P 203 25 = some (.goto 4, 3) := by decide +kernel
theorem kx_203_29 : x_code k_P 203 29 = some (.ireturn, 1) := by decide +kernel
theorem kq_203 : x_retk k_P 203 = 1 := by decide +kernel
theorem kx_203_13 : x_code k_P 203 13 = some (.aload_n 0, 1) := by decide +kernel
theorem kx_203_14 : x_code k_P 203 14 = some (.invokevirtual 286, 3) := by decide +kernel
theorem kp_203_286 : x_pool k_P 203 286 = (2, 180, 0) := by decide +kernel
theorem kx_203_28 : x_code k_P 203 28 = some (.iload_n 2, 1) := by decide +kernel
def fS_203_m : List (Nat × Nat) := [(63, 10), (63, 13), (63, 3), (63, 4), (63, 5), (63, 6), (63, 7), (63, 8), (63, 9)]
theorem m_203 {xs : Nat → Int} {Ln d : Nat} {T : List cK} {M : cM} (hT : TT T) (hI : Rng M) {kind : Int} (hX : LXp M) : cC k_P xs Ln (d + 3) 203 [rf 63, (0, kind)] (T, M) (qW T M fS_203_m 0 (fun v M1 => 0 ≤ v ∧ v ≤ 7 ∧ (LXp M1 ∧ M 63 4 ≤ M1 63 4 ∧ M 63 9 ≤ M1 63 9 ∧ (PRd M M1)))) := by
  show cP k_P xs Ln (d + 3) 203 0 [(0, rf 63), (1, (0, kind))] [] (T, M) _
  have hFm : Fr fS_203_m M M := Fr.refl
  have h639 := rg_63_9 hI
  have ⟨lx1, lx2⟩ := hX
  refine s_aload_n kx_203_0 rfl ?_
  refine s_iload_n kx_203_1 rfl ?_
  refine s_callV2 (k := 63) (s1 := 2) (s2 := 0) (as := [(0, kind)]) (rest := []) kx_203_2 kp_203_383 (Or.inl rfl) rfl (tk_63 hT) ki_202 kcl_202 rfl rfl (by decide) (m_202 (d := d) (kind := kind) hT hI) (kW (fun v1 M2 hI2 fr2 v1p => ?_))
  have hFm2 := hFm.call fr2 rfl
  have tr3 := (fr2 63 3 rfl)
  have tr4 := (fr2 63 4 rfl)
  have tr5 := (fr2 63 5 rfl)
  have tr6 := rg_63_9 hI2
  refine s_istore_n kx_203_5 km_203_2 rfl ?_
  refine s_aload_n kx_203_6 rfl ?_
  refine r_getI (k := 63) (f := 9) kx_203_7 kp_203_39 (tk_63 hT) kf_12_9 (fun _ => rfl) (rg_63_9 hI2) (fun v7 v7e v7a v7b => ?_)
  refine s_if_ne (t := 17) kx_203_10 (by decide) (fun hc8 => ?_) (fun hc8 => ?_)
  · refine s_aload_n kx_203_17 rfl ?_
    refine r_getK (k := 63) (f := 9) kx_203_18 kp_203_39 (tk_63 hT) kf_12_9 (fun _ => rfl) v7e ?_
    refine s_if_le (t := 28) kx_203_21 (by decide) (fun hc9 => absurd hc9 (by omega)) (fun hc9 => ?_)
    refine s_iconst (v := 0) kx_203_24 (by decide) ?_
    refine s_goto (t := 29) kx_203_25 (by decide) ?_
    have hk10 : M2 63 9 = v7 := v7e
    exact s_iret kx_203_29 (Or.inl kq_203) ⟨_, _, rfl, rfl, hI2, hFm2, ⟨by omega, by omega, (LXp.fr hX fr2 rfl), (by omega), (by omega), (by unfold PRd; omega)⟩⟩
  · refine s_aload_n kx_203_13 rfl ?_
    refine s_callV2 (k := 63) (s1 := 1) (s2 := 0) (as := []) (rest := []) kx_203_14 kp_203_286 (Or.inl rfl) rfl (tk_63 hT) ki_180 kcl_180 rfl rfl (by decide) (m_180 (d := d + 1) hT hI2) (kV (fun M12 hI12 fr12 v11p => ?_))
    have hFm12 := hFm2.call fr12 rfl
    have tr13 := (fr12 63 9 rfl)
    have tr14 := rg_63_9 hI12
    refine s_aload_n kx_203_17 rfl ?_
    refine r_getK (k := 63) (f := 9) kx_203_18 kp_203_39 (tk_63 hT) kf_12_9 (fun _ => rfl) ((fr12 63 9 rfl).trans v7e) ?_
    refine s_if_le (t := 28) kx_203_21 (by decide) (fun hc15 => ?_) (fun hc15 => absurd hc15 (by omega))
    refine s_iload_n kx_203_28 rfl ?_
    have hk16 : M12 63 9 = v7 := ((fr12 63 9 rfl).trans v7e)
    exact s_iret kx_203_29 (Or.inl kq_203) ⟨_, _, rfl, rfl, hI12, hFm12, ⟨by omega, by omega, (show LXp M12 from v11p.2), (by omega), (by omega), (by unfold PRd; omega)⟩⟩
theorem kx_199_0 : x_code k_P 199 0 = some (.aload_n 0, 1) := by decide +kernel
theorem kx_199_1 : x_code k_P 199 1 = some (.getfield 39, 3) := by decide +kernel
theorem kp_199_39 : x_pool k_P 199 39 = (1, 12, 9) := by decide +kernel
theorem kx_199_4 : x_code k_P 199 4 = some (.ifCond .ne 17, 3) := by decide +kernel
theorem kx_199_21 : x_code k_P 199 21 = some (.aload_n 0, 1) := by decide +kernel
theorem kx_199_22 : x_code k_P 199 22 = some (.getfield 39, 3) := by decide +kernel
theorem kx_199_25 : x_code k_P 199 25 = some (.ifCond .ne 7, 3) := by decide +kernel
theorem kx_199_32 : x_code k_P 199 32 = some (.aload_n 0, 1) := by decide +kernel
theorem kx_199_33 : x_code k_P 199 33 = some (.getfield 39, 3) := by decide +kernel
theorem kx_199_36 : x_code k_P 199 36 = some (.ifCond .ne 7, 3) := by decide +kernel
theorem kx_199_43 : x_code k_P 199 43 = some (.iconst 0, 1) := by decide +kernel
theorem kx_199_44 : x_code k_P 199 44 = some (.ireturn, 1) := by decide +kernel
theorem kq_199 : x_retk k_P 199 = 2 := by decide +kernel
theorem kx_199_7 : x_code k_P 199 7 = some (.iload_n 1, 1) := by decide +kernel
theorem kx_199_8 : x_code k_P 199 8 = some (.ifCond .eq 13, 3) := by decide +kernel
theorem kx_199_28 : x_code k_P 199 28 = some (.aload_n 0, 1) := by decide +kernel
theorem kx_199_29 : x_code k_P 199 29 = some (.invokevirtual 286, 3) := by decide +kernel
theorem kp_199_286 : x_pool k_P 199 286 = (2, 180, 0) := by decide +kernel
theorem kx_199_39 : x_code k_P 199 39 = some (.iconst 1, 1) := by decide +kernel
theorem kx_199_40 : x_code k_P 199 40 = some (.goto 4, 3) := by decide +kernel
theorem kx_199_11 : x_code k_P 199 11 = some (.aload_n 0, 1) := by decide +kernel
theorem kx_199_12 : x_code k_P 199 12 = some (.bipush 6, 2) := by decide +kernel
theorem kx_199_14 : x_code k_P 199 14 = some (.aload_n 0, 1) := by decide +kernel
theorem kx_199_15 : x_code k_P 199 15 = some (.getfield 23, 3) := by decide +kernel
theorem kp_199_23 : x_pool k_P 199 23 = (1, 12, 4) := by decide +kernel
theorem kx_199_18 : x_code k_P 199 18 = some (.invokevirtual 263, 3) := by decide +kernel
theorem kp_199_263 : x_pool k_P 199 263 = (2, 176, 2) := by decide +kernel
def fS_199_m : List (Nat × Nat) := [(63, 10), (63, 13), (63, 3), (63, 4), (63, 5), (63, 6), (63, 7), (63, 8), (63, 9)]
theorem m_199 {xs : Nat → Int} {Ln d : Nat} {T : List cK} {M : cM} (hT : TT T) (hI : Rng M) {full : Int} (hX : LXp M) (p0 : 0 ≤ full ∧ full ≤ 1) : cC k_P xs Ln (d + 2) 199 [rf 63, (0, full)] (T, M) (qW T M fS_199_m 0 (fun v M1 => LXp M1 ∧ M 63 4 ≤ M1 63 4 ∧ M 63 9 ≤ M1 63 9 ∧ ((v = 1 ∧ full = 0 ∧ M 63 5 ≤ M1 63 4 ∧ M1 63 9 = 0) ∨ (v = 0 ∧ 1 ≤ M1 63 9)))) := by
  show cP k_P xs Ln (d + 2) 199 0 [(0, rf 63), (1, (0, full))] [] (T, M) _
  have hFm : Fr fS_199_m M M := Fr.refl
  have h639 := rg_63_9 hI
  have ⟨lx1, lx2⟩ := hX
  refine s_aload_n kx_199_0 rfl ?_
  refine r_getI (k := 63) (f := 9) kx_199_1 kp_199_39 (tk_63 hT) kf_12_9 (fun _ => rfl) (rg_63_9 hI) (fun v1 v1e v1a v1b => ?_)
  refine s_if_ne (t := 21) kx_199_4 (by decide) (fun hc2 => ?_) (fun hc2 => ?_)
  · refine s_aload_n kx_199_21 rfl ?_
    refine r_getK (k := 63) (f := 9) kx_199_22 kp_199_39 (tk_63 hT) kf_12_9 (fun _ => rfl) v1e ?_
    refine s_if_ne (t := 32) kx_199_25 (by decide) (fun hc3 => ?_) (fun hc3 => absurd hc3 (by omega))
    refine s_aload_n kx_199_32 rfl ?_
    refine r_getK (k := 63) (f := 9) kx_199_33 kp_199_39 (tk_63 hT) kf_12_9 (fun _ => rfl) v1e ?_
    refine s_if_ne (t := 43) kx_199_36 (by decide) (fun hc4 => ?_) (fun hc4 => absurd hc4 (by omega))
    refine s_iconst (v := 0) kx_199_43 (by decide) ?_
    have hk5 : M 63 9 = v1 := v1e
    exact s_iret kx_199_44 (Or.inr ⟨kq_199, by omega⟩) ⟨_, _, rfl, rfl, hI, hFm, ⟨hX, (by omega), (by omega), (by omega)⟩⟩
  · refine s_iload_n kx_199_7 rfl ?_
    refine s_if_eq (t := 21) kx_199_8 (by decide) (fun hc6 => ?_) (fun hc6 => ?_)
    · refine s_aload_n kx_199_21 rfl ?_
      refine r_getK (k := 63) (f := 9) kx_199_22 kp_199_39 (tk_63 hT) kf_12_9 (fun _ => rfl) v1e ?_
      refine s_if_ne (t := 32) kx_199_25 (by decide) (fun hc7 => absurd hc7 (by omega)) (fun hc7 => ?_)
      refine s_aload_n kx_199_28 rfl ?_
      refine s_callV2 (k := 63) (s1 := 1) (s2 := 0) (as := []) (rest := []) kx_199_29 kp_199_286 (Or.inl rfl) rfl (tk_63 hT) ki_180 kcl_180 rfl rfl (by decide) (m_180 (d := d) hT hI) (kV (fun M9 hI9 fr9 v8p => ?_))
      have hFm9 := hFm.call fr9 rfl
      have tr10 := (fr9 63 9 rfl)
      have tr11 := rg_63_9 hI9
      refine s_aload_n kx_199_32 rfl ?_
      refine r_getK (k := 63) (f := 9) kx_199_33 kp_199_39 (tk_63 hT) kf_12_9 (fun _ => rfl) ((fr9 63 9 rfl).trans v1e) ?_
      refine s_if_ne (t := 43) kx_199_36 (by decide) (fun hc12 => absurd hc12 (by omega)) (fun hc12 => ?_)
      refine s_iconst (v := 1) kx_199_39 (by decide) ?_
      refine s_goto (t := 44) kx_199_40 (by decide) ?_
      have hk13 : M9 63 9 = v1 := ((fr9 63 9 rfl).trans v1e)
      exact s_iret kx_199_44 (Or.inr ⟨kq_199, by omega⟩) ⟨_, _, rfl, rfl, hI9, hFm9, ⟨(show LXp M9 from v8p.2), (by omega), (by omega), (by omega)⟩⟩
    · refine s_aload_n kx_199_11 rfl ?_
      refine s_bipush (v := 6) kx_199_12 (by decide) ?_
      refine s_aload_n kx_199_14 rfl ?_
      refine r_getI (k := 63) (f := 4) kx_199_15 kp_199_23 (tk_63 hT) kf_12_4 (fun _ => rfl) (rg_63_4 hI) (fun v14 v14e v14a v14b => ?_)
      refine s_callV2 (k := 63) (s1 := 3) (s2 := 0) (as := [(0, v14), (0, 6)]) (rest := []) kx_199_18 kp_199_263 (Or.inl rfl) rfl (tk_63 hT) ki_176 kcl_176 rfl rfl (by decide) (m_176 (d := d + 1) (kind := 6) (place := v14) hT hI (by omega)) (kV (fun M16 hI16 fr16 v15p => ?_))
      have hFm16 := hFm.call fr16 rfl
      have tr17 := (fr16 63 3 rfl)
      have tr18 := (fr16 63 4 rfl)
      have tr19 := (fr16 63 5 rfl)
      have tr20 := rg_63_9 hI16
      refine s_aload_n kx_199_21 rfl ?_
      refine r_getI (k := 63) (f := 9) kx_199_22 kp_199_39 (tk_63 hT) kf_12_9 (fun _ => rfl) (rg_63_9 hI16) (fun v21 v21e v21a v21b => ?_)
      refine s_if_ne (t := 32) kx_199_25 (by decide) (fun hc22 => ?_) (fun hc22 => ?_)
      · refine s_aload_n kx_199_32 rfl ?_
        refine r_getK (k := 63) (f := 9) kx_199_33 kp_199_39 (tk_63 hT) kf_12_9 (fun _ => rfl) v21e ?_
        refine s_if_ne (t := 43) kx_199_36 (by decide) (fun hc23 => ?_) (fun hc23 => absurd hc23 (by omega))
        refine s_iconst (v := 0) kx_199_43 (by decide) ?_
        have hk24 : M16 63 4 = v14 := ((fr16 63 4 rfl).trans v14e)
        have hk25 : M16 63 9 = v21 := v21e
        exact s_iret kx_199_44 (Or.inr ⟨kq_199, by omega⟩) ⟨_, _, rfl, rfl, hI16, hFm16, ⟨(LXp.fr hX fr16 rfl), (by omega), (by omega), (by omega)⟩⟩
      · refine s_aload_n kx_199_28 rfl ?_
        refine s_callV2 (k := 63) (s1 := 1) (s2 := 0) (as := []) (rest := []) kx_199_29 kp_199_286 (Or.inl rfl) rfl (tk_63 hT) ki_180 kcl_180 rfl rfl (by decide) (m_180 (d := d) hT hI16) (kV (fun M27 hI27 fr27 v26p => ?_))
        have hFm27 := hFm16.call fr27 rfl
        have tr28 := (fr27 63 9 rfl)
        have tr29 := rg_63_9 hI27
        refine s_aload_n kx_199_32 rfl ?_
        refine r_getK (k := 63) (f := 9) kx_199_33 kp_199_39 (tk_63 hT) kf_12_9 (fun _ => rfl) ((fr27 63 9 rfl).trans v21e) ?_
        refine s_if_ne (t := 43) kx_199_36 (by decide) (fun hc30 => absurd hc30 (by omega)) (fun hc30 => ?_)
        refine s_iconst (v := 1) kx_199_39 (by decide) ?_
        refine s_goto (t := 44) kx_199_40 (by decide) ?_
        have hk31 : M27 63 9 = v21 := ((fr27 63 9 rfl).trans v21e)
        exact s_iret kx_199_44 (Or.inr ⟨kq_199, by omega⟩) ⟨_, _, rfl, rfl, hI27, hFm27, ⟨(show LXp M27 from v26p.2), (by omega), (by omega), (by omega)⟩⟩
