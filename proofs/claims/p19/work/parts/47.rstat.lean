theorem kx_204_0 : x_code k_P 204 0 = some (.aload_n 0, 1) := by decide +kernel
theorem kx_204_1 : x_code k_P 204 1 = some (.aload_n 0, 1) := by decide +kernel
theorem kx_204_2 : x_code k_P 204 2 = some (.getfield 57, 3) := by decide +kernel
theorem kp_204_57 : x_pool k_P 204 57 = (1, 12, 15) := by decide +kernel
theorem kx_204_5 : x_code k_P 204 5 = some (.aload_n 0, 1) := by decide +kernel
theorem kx_204_6 : x_code k_P 204 6 = some (.getfield 121, 3) := by decide +kernel
theorem kp_204_121 : x_pool k_P 204 121 = (1, 12, 36) := by decide +kernel
theorem kx_204_9 : x_code k_P 204 9 = some (.iaload, 1) := by decide +kernel
theorem kx_204_10 : x_code k_P 204 10 = some (.bipush 8, 2) := by decide +kernel
theorem kx_204_12 : x_code k_P 204 12 = some (.if_icmp .ne 7, 3) := by decide +kernel
theorem kx_204_19 : x_code k_P 204 19 = some (.iconst 0, 1) := by decide +kernel
theorem kx_204_20 : x_code k_P 204 20 = some (.invokevirtual 386, 3) := by decide +kernel
theorem kp_204_386 : x_pool k_P 204 386 = (2, 199, 1) := by decide +kernel
theorem ki_199 : x_mci k_P 199 = 12 := by decide +kernel
theorem kcl_199 : x_maxL k_P 199 ≤ 60 ∧ 2 ≤ x_maxL k_P 199 := by decide +kernel
theorem kx_204_23 : x_code k_P 204 23 = some (.ifCond .ne 4, 3) := by decide +kernel
theorem kx_204_27 : x_code k_P 204 27 = some (.bipush 8, 2) := by decide +kernel
theorem kx_204_29 : x_code k_P 204 29 = some (.aload_n 0, 1) := by decide +kernel
theorem kx_204_30 : x_code k_P 204 30 = some (.getfield 121, 3) := by decide +kernel
theorem kx_204_33 : x_code k_P 204 33 = some (.imul, 1) := by decide +kernel
theorem kx_204_34 : x_code k_P 204 34 = some (.aload_n 0, 1) := by decide +kernel
theorem kx_204_35 : x_code k_P 204 35 = some (.getfield 57, 3) := by decide +kernel
theorem kx_204_38 : x_code k_P 204 38 = some (.aload_n 0, 1) := by decide +kernel
theorem kx_204_39 : x_code k_P 204 39 = some (.getfield 121, 3) := by decide +kernel
theorem kx_204_42 : x_code k_P 204 42 = some (.iaload, 1) := by decide +kernel
theorem kx_204_43 : x_code k_P 204 43 = some (.iadd, 1) := by decide +kernel
theorem kx_204_44 : x_code k_P 204 44 = some (.istore_n 1, 1) := by decide +kernel
theorem km_204_1 : 1 < x_maxL k_P 204 := by decide +kernel
theorem kx_204_45 : x_code k_P 204 45 = some (.aload_n 0, 1) := by decide +kernel
theorem kx_204_46 : x_code k_P 204 46 = some (.getfield 111, 3) := by decide +kernel
theorem kp_204_111 : x_pool k_P 204 111 = (1, 12, 33) := by decide +kernel
theorem kx_204_49 : x_code k_P 204 49 = some (.iload_n 1, 1) := by decide +kernel
theorem kx_204_50 : x_code k_P 204 50 = some (.aload_n 0, 1) := by decide +kernel
theorem kx_204_51 : x_code k_P 204 51 = some (.invokevirtual 390, 3) := by decide +kernel
theorem kp_204_390 : x_pool k_P 204 390 = (2, 201, 0) := by decide +kernel
theorem ki_201 : x_mci k_P 201 = 12 := by decide +kernel
theorem kcl_201 : x_maxL k_P 201 ≤ 60 ∧ 1 ≤ x_maxL k_P 201 := by decide +kernel
theorem kx_204_54 : x_code k_P 204 54 = some (.lastore, 1) := by decide +kernel
theorem kx_204_55 : x_code k_P 204 55 = some (.aload_n 0, 1) := by decide +kernel
theorem kx_204_56 : x_code k_P 204 56 = some (.ldc2_w 291, 3) := by decide +kernel
theorem kp_204_291 : x_pool k_P 204 291 = (8, 0, 1685024626) := by decide +kernel
theorem kx_204_59 : x_code k_P 204 59 = some (.invokevirtual 394, 3) := by decide +kernel
theorem kp_204_394 : x_pool k_P 204 394 = (2, 200, 1) := by decide +kernel
theorem ki_200 : x_mci k_P 200 = 12 := by decide +kernel
theorem kcl_200 : x_maxL k_P 200 ≤ 60 ∧ 3 ≤ x_maxL k_P 200 := by decide +kernel
theorem kx_204_62 : x_code k_P 204 62 = some (.aload_n 0, 1) := by decide +kernel
theorem kx_204_63 : x_code k_P 204 63 = some (.getfield 60, 3) := by decide +kernel
theorem kp_204_60 : x_pool k_P 204 60 = (1, 12, 16) := by decide +kernel
theorem kx_204_66 : x_code k_P 204 66 = some (.iload_n 1, 1) := by decide +kernel
theorem kx_204_67 : x_code k_P 204 67 = some (.aload_n 0, 1) := by decide +kernel
theorem kx_204_68 : x_code k_P 204 68 = some (.iconst 1, 1) := by decide +kernel
theorem kx_204_69 : x_code k_P 204 69 = some (.bipush 9, 2) := by decide +kernel
theorem kx_204_71 : x_code k_P 204 71 = some (.invokevirtual 398, 3) := by decide +kernel
theorem kp_204_398 : x_pool k_P 204 398 = (2, 188, 2) := by decide +kernel
theorem ki_188 : x_mci k_P 188 = 12 := by decide +kernel
theorem kcl_188 : x_maxL k_P 188 ≤ 60 ∧ 3 ≤ x_maxL k_P 188 := by decide +kernel
theorem kx_204_74 : x_code k_P 204 74 = some (.iastore, 1) := by decide +kernel
theorem kx_204_75 : x_code k_P 204 75 = some (.aload_n 0, 1) := by decide +kernel
theorem kx_204_76 : x_code k_P 204 76 = some (.ldc2_w 293, 3) := by decide +kernel
theorem kp_204_293 : x_pool k_P 204 293 = (8, 0, 439905906546) := by decide +kernel
theorem kx_204_79 : x_code k_P 204 79 = some (.invokevirtual 394, 3) := by decide +kernel
theorem kx_204_82 : x_code k_P 204 82 = some (.aload_n 0, 1) := by decide +kernel
theorem kx_204_83 : x_code k_P 204 83 = some (.getfield 63, 3) := by decide +kernel
theorem kp_204_63 : x_pool k_P 204 63 = (1, 12, 17) := by decide +kernel
theorem kx_204_86 : x_code k_P 204 86 = some (.iload_n 1, 1) := by decide +kernel
theorem kx_204_87 : x_code k_P 204 87 = some (.aload_n 0, 1) := by decide +kernel
theorem kx_204_88 : x_code k_P 204 88 = some (.iconst 1, 1) := by decide +kernel
theorem kx_204_89 : x_code k_P 204 89 = some (.bipush 99, 2) := by decide +kernel
theorem kx_204_91 : x_code k_P 204 91 = some (.invokevirtual 398, 3) := by decide +kernel
theorem kx_204_94 : x_code k_P 204 94 = some (.iastore, 1) := by decide +kernel
theorem kx_204_95 : x_code k_P 204 95 = some (.iconst 0, 1) := by decide +kernel
theorem kx_204_96 : x_code k_P 204 96 = some (.istore_n 2, 1) := by decide +kernel
theorem km_204_2 : 2 < x_maxL k_P 204 := by decide +kernel
theorem kx_204_97 : x_code k_P 204 97 = some (.iload_n 2, 1) := by decide +kernel
theorem kx_204_98 : x_code k_P 204 98 = some (.bipush 8, 2) := by decide +kernel
theorem kx_204_100 : x_code k_P 204 100 = some (.if_icmp .ge 49, 3) := by decide +kernel
theorem kx_204_149 : x_code k_P 204 149 = some (.aload_n 0, 1) := by decide +kernel
theorem kx_204_150 : x_code k_P 204 150 = some (.getfield 39, 3) := by decide +kernel
theorem kp_204_39 : x_pool k_P 204 39 = (1, 12, 9) := by decide +kernel
theorem kx_204_153 : x_code k_P 204 153 = some (.ifCond .ne 16, 3) := by decide +kernel
theorem kx_204_169 : x_code k_P 204 169 = some (.return_, 1) := by decide +kernel
theorem kq_204 : x_retk k_P 204 = 0 := by decide +kernel
theorem kx_204_156 : x_code k_P 204 156 = some (.aload_n 0, 1) := by decide +kernel
theorem kx_204_157 : x_code k_P 204 157 = some (.getfield 57, 3) := by decide +kernel
theorem kx_204_160 : x_code k_P 204 160 = some (.aload_n 0, 1) := by decide +kernel
theorem kx_204_161 : x_code k_P 204 161 = some (.getfield 121, 3) := by decide +kernel
theorem kx_204_164 : x_code k_P 204 164 = some (.dup2, 1) := by decide +kernel
theorem kx_204_165 : x_code k_P 204 165 = some (.iaload, 1) := by decide +kernel
theorem kx_204_166 : x_code k_P 204 166 = some (.iconst 1, 1) := by decide +kernel
theorem kx_204_167 : x_code k_P 204 167 = some (.iadd, 1) := by decide +kernel
theorem kx_204_168 : x_code k_P 204 168 = some (.iastore, 1) := by decide +kernel
theorem kx_204_103 : x_code k_P 204 103 = some (.aload_n 0, 1) := by decide +kernel
theorem kx_204_104 : x_code k_P 204 104 = some (.getfield 66, 3) := by decide +kernel
theorem kp_204_66 : x_pool k_P 204 66 = (1, 12, 18) := by decide +kernel
theorem kx_204_107 : x_code k_P 204 107 = some (.bipush 8, 2) := by decide +kernel
theorem kx_204_109 : x_code k_P 204 109 = some (.iload_n 1, 1) := by decide +kernel
theorem kx_204_110 : x_code k_P 204 110 = some (.imul, 1) := by decide +kernel
theorem kx_204_111 : x_code k_P 204 111 = some (.iload_n 2, 1) := by decide +kernel
theorem kx_204_112 : x_code k_P 204 112 = some (.iadd, 1) := by decide +kernel
theorem kx_204_113 : x_code k_P 204 113 = some (.iconst 0, 1) := by decide +kernel
theorem kx_204_114 : x_code k_P 204 114 = some (.iastore, 1) := by decide +kernel
theorem kx_204_115 : x_code k_P 204 115 = some (.aload_n 0, 1) := by decide +kernel
theorem kx_204_116 : x_code k_P 204 116 = some (.getfield 66, 3) := by decide +kernel
theorem kx_204_119 : x_code k_P 204 119 = some (.bipush 8, 2) := by decide +kernel
theorem kx_204_121 : x_code k_P 204 121 = some (.bipush 8, 2) := by decide +kernel
theorem kx_204_123 : x_code k_P 204 123 = some (.aload_n 0, 1) := by decide +kernel
theorem kx_204_124 : x_code k_P 204 124 = some (.getfield 121, 3) := by decide +kernel
theorem kx_204_127 : x_code k_P 204 127 = some (.imul, 1) := by decide +kernel
theorem kx_204_128 : x_code k_P 204 128 = some (.iload_n 2, 1) := by decide +kernel
theorem kx_204_129 : x_code k_P 204 129 = some (.iadd, 1) := by decide +kernel
theorem kx_204_130 : x_code k_P 204 130 = some (.imul, 1) := by decide +kernel
theorem kx_204_131 : x_code k_P 204 131 = some (.aload_n 0, 1) := by decide +kernel
theorem kx_204_132 : x_code k_P 204 132 = some (.getfield 57, 3) := by decide +kernel
theorem kx_204_135 : x_code k_P 204 135 = some (.aload_n 0, 1) := by decide +kernel
theorem kx_204_136 : x_code k_P 204 136 = some (.getfield 121, 3) := by decide +kernel
theorem kx_204_139 : x_code k_P 204 139 = some (.iaload, 1) := by decide +kernel
theorem kx_204_140 : x_code k_P 204 140 = some (.iadd, 1) := by decide +kernel
theorem kx_204_141 : x_code k_P 204 141 = some (.iconst 0, 1) := by decide +kernel
theorem kx_204_142 : x_code k_P 204 142 = some (.iastore, 1) := by decide +kernel
theorem kx_204_143 : x_code k_P 204 143 = some (.iinc 2 1, 3) := by decide +kernel
theorem kx_204_146 : x_code k_P 204 146 = some (.goto (-49), 3) := by decide +kernel
theorem kx_204_26 : x_code k_P 204 26 = some (.return_, 1) := by decide +kernel
theorem kx_204_15 : x_code k_P 204 15 = some (.iconst 1, 1) := by decide +kernel
theorem kx_204_16 : x_code k_P 204 16 = some (.goto 4, 3) := by decide +kernel
def fS_204_l97 : List (Nat × Nat) := [(68, 99999)]
def fS_204_m : List (Nat × Nat) := [(63, 10), (63, 13), (63, 3), (63, 4), (63, 5), (63, 6), (63, 7), (63, 8), (63, 9), (65, 99999), (66, 99999), (67, 99999), (68, 99999), (83, 99999)]
theorem m_204 {xs : Nat → Int} {Ln d : Nat} {T : List cK} {M : cM} (hT : TT T) (hI : Rng M) (hX : LXp M) (p0 : M 63 4 + 1 ≤ M 63 5) : cC k_P xs Ln (d + 3) 204 [rf 63] (T, M) (qV T M fS_204_m (fun M1 => LXp M1 ∧ M 63 4 ≤ M1 63 4 ∧ M 63 9 ≤ M1 63 9 ∧ (PRd M M1))) := by
  show cP k_P xs Ln (d + 3) 204 0 [(0, rf 63)] [] (T, M) _
  have hFm : Fr fS_204_m M M := Fr.refl
  have h639 := rg_63_9 hI
  refine s_aload_n kx_204_0 rfl ?_
  refine s_aload_n kx_204_1 rfl ?_
  refine r_getR (k := 63) (f := 15) (k2 := 65) kx_204_2 kp_204_57 (tk_63 hT) kf_12_15 (by decide) (rq_63_15 hI) ?_
  refine s_aload_n kx_204_5 rfl ?_
  refine r_getI (k := 63) (f := 36) kx_204_6 kp_204_121 (tk_63 hT) kf_12_36 (fun _ => rfl) (rg_63_36 hI) (fun v1 v1e v1a v1b => ?_)
  refine r_ald (k := 65) kx_204_9 (tk_65 hT) ⟨by omega, by omega⟩ (rg_65 hI) (fun v2 v2e v2a v2b => ?_)
  refine s_bipush (v := 8) kx_204_10 (by decide) ?_
  refine s_icmp_ne (t := 19) kx_204_12 (by decide) (fun hc3 => ?_) (fun hc3 => ?_)
  · refine s_iconst (v := 0) kx_204_19 (by decide) ?_
    refine s_callV2 (k := 63) (s1 := 2) (s2 := 0) (as := [(0, 0)]) (rest := []) kx_204_20 kp_204_386 (Or.inl rfl) rfl (tk_63 hT) ki_199 kcl_199 rfl rfl (by decide) (m_199 (d := d) (full := 0) hT hI hX (by omega)) (kW (fun v4 M5 hI5 fr5 v4p => ?_))
    have hFm5 := hFm.call fr5 rfl
    have tr6 := rg_63_9 hI5
    refine s_if_ne (t := 27) kx_204_23 (by decide) (fun hc7 => ?_) (fun hc7 => ?_)
    · refine s_bipush (v := 8) kx_204_27 (by decide) ?_
      refine s_aload_n kx_204_29 rfl ?_
      refine r_getK (k := 63) (f := 36) kx_204_30 kp_204_121 (tk_63 hT) kf_12_36 (fun _ => rfl) ((fr5 63 36 rfl).trans v1e) ?_
      refine r_mul kx_204_33 ⟨by omega, by omega⟩ ?_
      refine s_aload_n kx_204_34 rfl ?_
      refine r_getR (k := 63) (f := 15) (k2 := 65) kx_204_35 kp_204_57 (tk_63 hT) kf_12_15 (by decide) (rq_63_15 hI5) ?_
      refine s_aload_n kx_204_38 rfl ?_
      refine r_getK (k := 63) (f := 36) kx_204_39 kp_204_121 (tk_63 hT) kf_12_36 (fun _ => rfl) ((fr5 63 36 rfl).trans v1e) ?_
      refine r_aldK (k := 65) kx_204_42 (tk_65 hT) ⟨by omega, by omega⟩ ((fr5 65 _ rfl).trans v2e) ?_
      refine r_add kx_204_43 ⟨by omega, by omega⟩ ?_
      refine s_istore_n kx_204_44 km_204_1 rfl ?_
      refine s_aload_n kx_204_45 rfl ?_
      refine r_getR (k := 63) (f := 33) (k2 := 83) kx_204_46 kp_204_111 (tk_63 hT) kf_12_33 (by decide) (rq_63_33 hI5) ?_
      refine s_iload_n kx_204_49 rfl ?_
      refine s_aload_n kx_204_50 rfl ?_
      refine s_callV2 (k := 63) (s1 := 1) (s2 := 2) (as := []) (rest := [(0, ((8 * v1) + v2)), rf 83]) kx_204_51 kp_204_390 (Or.inl rfl) rfl (tk_63 hT) ki_201 kcl_201 rfl rfl (by decide) (m_201 (d := d) hT hI5 v4p.1) (kW (fun v8 M9 hI9 fr9 v8p => ?_))
      have hFm9 := hFm5.call fr9 rfl
      have tr10 := rg_63_9 hI9
      refine r_last (k := 83) kx_204_54 (tk_83 hT) ⟨by omega, by omega⟩ hI9 ru_83 (fun M11 hI11 u11 => ?_)
      have hFm11 := hFm9.up u11 rfl
      have tr12 := (u11.2 63 3 (by omega))
      have tr13 := (u11.2 63 4 (by omega))
      have tr14 := (u11.2 63 5 (by omega))
      have tr15 := (u11.2 63 9 (by omega))
      refine s_aload_n kx_204_55 rfl ?_
      refine s_ldc2_w kx_204_56 kp_204_291 ?_
      refine s_callV2 (k := 63) (s1 := 3) (s2 := 0) (as := [(1, 1685024626)]) (rest := []) kx_204_59 kp_204_394 (Or.inl rfl) rfl (tk_63 hT) ki_200 kcl_200 rfl rfl (by decide) (m_200 (d := d) (w := 1685024626) hT hI11 (LXp.up v8p.1 u11 (Or.inl (by decide)))) (kV (fun M17 hI17 fr17 v16p => ?_))
      have hFm17 := hFm11.call fr17 rfl
      have tr18 := rg_63_9 hI17
      refine s_aload_n kx_204_62 rfl ?_
      refine r_getR (k := 63) (f := 16) (k2 := 66) kx_204_63 kp_204_60 (tk_63 hT) kf_12_16 (by decide) (rq_63_16 hI17) ?_
      refine s_iload_n kx_204_66 rfl ?_
      refine s_aload_n kx_204_67 rfl ?_
      refine s_iconst (v := 1) kx_204_68 (by decide) ?_
      refine s_bipush (v := 9) kx_204_69 (by decide) ?_
      refine s_callV2 (k := 63) (s1 := 3) (s2 := 2) (as := [(0, 9), (0, 1)]) (rest := [(0, ((8 * v1) + v2)), rf 66]) kx_204_71 kp_204_398 (Or.inl rfl) rfl (tk_63 hT) ki_188 kcl_188 rfl rfl (by decide) (m_188 (d := d) (low := 1) (high := 9) hT hI17 v16p.1) (kW (fun v19 M20 hI20 fr20 v19p => ?_))
      have hFm20 := hFm17.call fr20 rfl
      have tr21 := rg_63_9 hI20
      refine r_ast (k := 66) kx_204_74 (tk_66 hT) ⟨by omega, by omega⟩ hI20 ru_66 (fun M22 hI22 u22 => ?_)
      have hFm22 := hFm20.up u22 rfl
      have tr23 := (u22.2 63 3 (by omega))
      have tr24 := (u22.2 63 4 (by omega))
      have tr25 := (u22.2 63 5 (by omega))
      have tr26 := (u22.2 63 9 (by omega))
      refine s_aload_n kx_204_75 rfl ?_
      refine s_ldc2_w kx_204_76 kp_204_293 ?_
      refine s_callV2 (k := 63) (s1 := 3) (s2 := 0) (as := [(1, 439905906546)]) (rest := []) kx_204_79 kp_204_394 (Or.inl rfl) rfl (tk_63 hT) ki_200 kcl_200 rfl rfl (by decide) (m_200 (d := d) (w := 439905906546) hT hI22 (LXp.up v19p.1 u22 (Or.inl (by decide)))) (kV (fun M28 hI28 fr28 v27p => ?_))
      have hFm28 := hFm22.call fr28 rfl
      have tr29 := rg_63_9 hI28
      refine s_aload_n kx_204_82 rfl ?_
      refine r_getR (k := 63) (f := 17) (k2 := 67) kx_204_83 kp_204_63 (tk_63 hT) kf_12_17 (by decide) (rq_63_17 hI28) ?_
      refine s_iload_n kx_204_86 rfl ?_
      refine s_aload_n kx_204_87 rfl ?_
      refine s_iconst (v := 1) kx_204_88 (by decide) ?_
      refine s_bipush (v := 99) kx_204_89 (by decide) ?_
      refine s_callV2 (k := 63) (s1 := 3) (s2 := 2) (as := [(0, 99), (0, 1)]) (rest := [(0, ((8 * v1) + v2)), rf 67]) kx_204_91 kp_204_398 (Or.inl rfl) rfl (tk_63 hT) ki_188 kcl_188 rfl rfl (by decide) (m_188 (d := d) (low := 1) (high := 99) hT hI28 v27p.1) (kW (fun v30 M31 hI31 fr31 v30p => ?_))
      have hFm31 := hFm28.call fr31 rfl
      have tr32 := rg_63_9 hI31
      refine r_ast (k := 67) kx_204_94 (tk_67 hT) ⟨by omega, by omega⟩ hI31 ru_67 (fun M33 hI33 u33 => ?_)
      have hFm33 := hFm31.up u33 rfl
      have tr34 := (u33.2 63 3 (by omega))
      have tr35 := (u33.2 63 4 (by omega))
      have tr36 := (u33.2 63 5 (by omega))
      have tr37 := (u33.2 63 9 (by omega))
      refine s_iconst (v := 0) kx_204_95 (by decide) ?_
      refine s_istore_n kx_204_96 km_204_2 rfl ?_
      have key40 : ∀ n41 : Nat, ∀ (x2_38 : Int), ∀ M39 : cM, Rng M39 → Fr fS_204_m M M39 → Fr fS_204_l97 M33 M39 → (0 ≤ x2_38) → (x2_38 ≤ 8) → (2147483647 - x2_38).toNat < n41 → cP k_P xs Ln (d + 3) 204 97 [(0, rf 63), (1, (0, ((8 * v1) + v2))), (2, (0, x2_38))] [] (T, M39) (qV T M fS_204_m (fun M1 => LXp M1 ∧ M 63 4 ≤ M1 63 4 ∧ M 63 9 ≤ M1 63 9 ∧ (PRd M M1))) := by
        intro n41
        induction n41 with
        | zero => intro x2_38 M39 hI39 hFm39 fl39 i42 i43 hm44; exact absurd hm44 (Nat.not_lt_zero _)
        | succ n41 ih45 =>
          intro x2_38 M39 hI39 hFm39 fl39 i42 i43 hm44
          have tr46 := fl39 63 4 rfl
          have tr47 := fl39 63 9 rfl
          have tr48 := rg_63_9 hI39
          refine s_iload_n kx_204_97 rfl ?_
          refine s_bipush (v := 8) kx_204_98 (by decide) ?_
          refine s_icmp_ge (t := 149) kx_204_100 (by decide) (fun hc49 => ?_) (fun hc49 => ?_)
          · refine s_aload_n kx_204_149 rfl ?_
            refine r_getI (k := 63) (f := 9) kx_204_150 kp_204_39 (tk_63 hT) kf_12_9 (fun _ => rfl) (rg_63_9 hI39) (fun v50 v50e v50a v50b => ?_)
            refine s_if_ne (t := 169) kx_204_153 (by decide) (fun hc51 => ?_) (fun hc51 => ?_)
            · have hk52 : M39 63 9 = v50 := v50e
              exact s_vret kx_204_169 kq_204 ⟨_, rfl, rfl, hI39, hFm39, ⟨(LXp.fr (LXp.up v30p.1 u33 (Or.inl (by decide))) fl39 rfl), (by omega), (by omega), (by unfold PRd; omega)⟩⟩
            · refine s_aload_n kx_204_156 rfl ?_
              refine r_getR (k := 63) (f := 15) (k2 := 65) kx_204_157 kp_204_57 (tk_63 hT) kf_12_15 (by decide) (rq_63_15 hI39) ?_
              refine s_aload_n kx_204_160 rfl ?_
              refine r_getK (k := 63) (f := 36) kx_204_161 kp_204_121 (tk_63 hT) kf_12_36 (fun _ => rfl) ((fl39 63 36 rfl).trans ((u33.2 63 36 (by omega)).trans ((fr31 63 36 rfl).trans ((fr28 63 36 rfl).trans ((u22.2 63 36 (by omega)).trans ((fr20 63 36 rfl).trans ((fr17 63 36 rfl).trans ((u11.2 63 36 (by omega)).trans ((fr9 63 36 rfl).trans ((fr5 63 36 rfl).trans v1e)))))))))) ?_
              refine s_dup2 kx_204_164 rfl rfl ?_
              refine r_aldK (k := 65) kx_204_165 (tk_65 hT) ⟨by omega, by omega⟩ ((fl39 65 _ rfl).trans ((u33.2 65 _ (by omega)).trans ((fr31 65 _ rfl).trans ((fr28 65 _ rfl).trans ((u22.2 65 _ (by omega)).trans ((fr20 65 _ rfl).trans ((fr17 65 _ rfl).trans ((u11.2 65 _ (by omega)).trans ((fr9 65 _ rfl).trans ((fr5 65 _ rfl).trans v2e)))))))))) ?_
              refine s_iconst (v := 1) kx_204_166 (by decide) ?_
              refine r_add kx_204_167 ⟨by omega, by omega⟩ ?_
              refine r_ast (k := 65) kx_204_168 (tk_65 hT) ⟨by omega, by omega⟩ hI39 (ru_65 (by omega) (by omega)) (fun M53 hI53 u53 => ?_)
              have hFm53 := hFm39.up u53 rfl
              have tr54 := (u53.2 63 3 (by omega))
              have tr55 := (u53.2 63 4 (by omega))
              have tr56 := (u53.2 63 5 (by omega))
              have tr57 := (u53.2 63 9 (by omega))
              have hk58 : M53 63 9 = v50 := ((u53.2 63 9 (by omega)).trans v50e)
              exact s_vret kx_204_169 kq_204 ⟨_, rfl, rfl, hI53, hFm53, ⟨(LXp.up (LXp.fr (LXp.up v30p.1 u33 (Or.inl (by decide))) fl39 rfl) u53 (Or.inl (by decide))), (by omega), (by omega), (by unfold PRd; omega)⟩⟩
          · refine s_aload_n kx_204_103 rfl ?_
            refine r_getR (k := 63) (f := 18) (k2 := 68) kx_204_104 kp_204_66 (tk_63 hT) kf_12_18 (by decide) (rq_63_18 hI39) ?_
            refine s_bipush (v := 8) kx_204_107 (by decide) ?_
            refine s_iload_n kx_204_109 rfl ?_
            refine r_mul kx_204_110 ⟨by omega, by omega⟩ ?_
            refine s_iload_n kx_204_111 rfl ?_
            refine r_add kx_204_112 ⟨by omega, by omega⟩ ?_
            refine s_iconst (v := 0) kx_204_113 (by decide) ?_
            refine r_ast (k := 68) kx_204_114 (tk_68 hT) ⟨by omega, by omega⟩ hI39 (ru_68 (by omega) (by omega)) (fun M59 hI59 u59 => ?_)
            have hFm59 := hFm39.up u59 rfl
            have hFl9759 := fl39.up u59 rfl
            have tr60 := (u59.2 63 3 (by omega))
            have tr61 := (u59.2 63 4 (by omega))
            have tr62 := (u59.2 63 5 (by omega))
            have tr63 := (u59.2 63 9 (by omega))
            refine s_aload_n kx_204_115 rfl ?_
            refine r_getR (k := 63) (f := 18) (k2 := 68) kx_204_116 kp_204_66 (tk_63 hT) kf_12_18 (by decide) (rq_63_18 hI59) ?_
            refine s_bipush (v := 8) kx_204_119 (by decide) ?_
            refine s_bipush (v := 8) kx_204_121 (by decide) ?_
            refine s_aload_n kx_204_123 rfl ?_
            refine r_getK (k := 63) (f := 36) kx_204_124 kp_204_121 (tk_63 hT) kf_12_36 (fun _ => rfl) ((u59.2 63 36 (by omega)).trans ((fl39 63 36 rfl).trans ((u33.2 63 36 (by omega)).trans ((fr31 63 36 rfl).trans ((fr28 63 36 rfl).trans ((u22.2 63 36 (by omega)).trans ((fr20 63 36 rfl).trans ((fr17 63 36 rfl).trans ((u11.2 63 36 (by omega)).trans ((fr9 63 36 rfl).trans ((fr5 63 36 rfl).trans v1e))))))))))) ?_
            refine r_mul kx_204_127 ⟨by omega, by omega⟩ ?_
            refine s_iload_n kx_204_128 rfl ?_
            refine r_add kx_204_129 ⟨by omega, by omega⟩ ?_
            refine r_mul kx_204_130 ⟨by omega, by omega⟩ ?_
            refine s_aload_n kx_204_131 rfl ?_
            refine r_getR (k := 63) (f := 15) (k2 := 65) kx_204_132 kp_204_57 (tk_63 hT) kf_12_15 (by decide) (rq_63_15 hI59) ?_
            refine s_aload_n kx_204_135 rfl ?_
            refine r_getK (k := 63) (f := 36) kx_204_136 kp_204_121 (tk_63 hT) kf_12_36 (fun _ => rfl) ((u59.2 63 36 (by omega)).trans ((fl39 63 36 rfl).trans ((u33.2 63 36 (by omega)).trans ((fr31 63 36 rfl).trans ((fr28 63 36 rfl).trans ((u22.2 63 36 (by omega)).trans ((fr20 63 36 rfl).trans ((fr17 63 36 rfl).trans ((u11.2 63 36 (by omega)).trans ((fr9 63 36 rfl).trans ((fr5 63 36 rfl).trans v1e))))))))))) ?_
            refine r_aldK (k := 65) kx_204_139 (tk_65 hT) ⟨by omega, by omega⟩ ((u59.2 65 _ (by omega)).trans ((fl39 65 _ rfl).trans ((u33.2 65 _ (by omega)).trans ((fr31 65 _ rfl).trans ((fr28 65 _ rfl).trans ((u22.2 65 _ (by omega)).trans ((fr20 65 _ rfl).trans ((fr17 65 _ rfl).trans ((u11.2 65 _ (by omega)).trans ((fr9 65 _ rfl).trans ((fr5 65 _ rfl).trans v2e))))))))))) ?_
            refine r_add kx_204_140 ⟨by omega, by omega⟩ ?_
            refine s_iconst (v := 0) kx_204_141 (by decide) ?_
            refine r_ast (k := 68) kx_204_142 (tk_68 hT) ⟨by omega, by omega⟩ hI59 (ru_68 (by omega) (by omega)) (fun M64 hI64 u64 => ?_)
            have hFm64 := hFm59.up u64 rfl
            have hFl9764 := hFl9759.up u64 rfl
            have tr65 := (u64.2 63 3 (by omega))
            have tr66 := (u64.2 63 4 (by omega))
            have tr67 := (u64.2 63 5 (by omega))
            have tr68 := (u64.2 63 9 (by omega))
            refine r_iinc kx_204_143 rfl km_204_2 (by decide) ⟨by omega, by omega⟩ rfl ?_
            refine s_goto (t := 97) kx_204_146 (by decide) ?_
            exact cP.wk (lS1 rfl (lS1 rfl (lS1 rfl lS0))) (ih45 (x2_38 + 1) M64 hI64 hFm64 hFl9764 (by omega) (by omega) (by omega))
      exact cP.wk (lS1 rfl (lS1 rfl (lS1 rfl lS0))) (key40 _ 0 M33 hI33 hFm33 Fr.refl (by omega) (by omega) (Nat.lt_succ_self _))
    · exact s_vret kx_204_26 kq_204 ⟨_, rfl, rfl, hI5, hFm5, ⟨v4p.1, (by omega), (by omega), (by unfold PRd; omega)⟩⟩
  · refine s_iconst (v := 1) kx_204_15 (by decide) ?_
    refine s_goto (t := 20) kx_204_16 (by decide) ?_
    refine s_callV2 (k := 63) (s1 := 2) (s2 := 0) (as := [(0, 1)]) (rest := []) kx_204_20 kp_204_386 (Or.inl rfl) rfl (tk_63 hT) ki_199 kcl_199 rfl rfl (by decide) (m_199 (d := d) (full := 1) hT hI hX (by omega)) (kW (fun v69 M70 hI70 fr70 v69p => ?_))
    have hFm70 := hFm.call fr70 rfl
    have tr71 := rg_63_9 hI70
    refine s_if_ne (t := 27) kx_204_23 (by decide) (fun hc72 => ?_) (fun hc72 => ?_)
    · refine s_bipush (v := 8) kx_204_27 (by decide) ?_
      refine s_aload_n kx_204_29 rfl ?_
      refine r_getK (k := 63) (f := 36) kx_204_30 kp_204_121 (tk_63 hT) kf_12_36 (fun _ => rfl) ((fr70 63 36 rfl).trans v1e) ?_
      refine r_mul kx_204_33 ⟨by omega, by omega⟩ ?_
      refine s_aload_n kx_204_34 rfl ?_
      refine r_getR (k := 63) (f := 15) (k2 := 65) kx_204_35 kp_204_57 (tk_63 hT) kf_12_15 (by decide) (rq_63_15 hI70) ?_
      refine s_aload_n kx_204_38 rfl ?_
      refine r_getK (k := 63) (f := 36) kx_204_39 kp_204_121 (tk_63 hT) kf_12_36 (fun _ => rfl) ((fr70 63 36 rfl).trans v1e) ?_
      refine r_aldK (k := 65) kx_204_42 (tk_65 hT) ⟨by omega, by omega⟩ ((fr70 65 _ rfl).trans v2e) ?_
      refine r_add kx_204_43 ⟨by omega, by omega⟩ ?_
      refine s_istore_n kx_204_44 km_204_1 rfl ?_
      refine s_aload_n kx_204_45 rfl ?_
      refine r_getR (k := 63) (f := 33) (k2 := 83) kx_204_46 kp_204_111 (tk_63 hT) kf_12_33 (by decide) (rq_63_33 hI70) ?_
      refine s_iload_n kx_204_49 rfl ?_
      refine s_aload_n kx_204_50 rfl ?_
      refine s_callV2 (k := 63) (s1 := 1) (s2 := 2) (as := []) (rest := [(0, ((8 * v1) + v2)), rf 83]) kx_204_51 kp_204_390 (Or.inl rfl) rfl (tk_63 hT) ki_201 kcl_201 rfl rfl (by decide) (m_201 (d := d) hT hI70 v69p.1) (kW (fun v73 M74 hI74 fr74 v73p => ?_))
      have hFm74 := hFm70.call fr74 rfl
      have tr75 := rg_63_9 hI74
      refine r_last (k := 83) kx_204_54 (tk_83 hT) ⟨by omega, by omega⟩ hI74 ru_83 (fun M76 hI76 u76 => ?_)
      have hFm76 := hFm74.up u76 rfl
      have tr77 := (u76.2 63 3 (by omega))
      have tr78 := (u76.2 63 4 (by omega))
      have tr79 := (u76.2 63 5 (by omega))
      have tr80 := (u76.2 63 9 (by omega))
      refine s_aload_n kx_204_55 rfl ?_
      refine s_ldc2_w kx_204_56 kp_204_291 ?_
      refine s_callV2 (k := 63) (s1 := 3) (s2 := 0) (as := [(1, 1685024626)]) (rest := []) kx_204_59 kp_204_394 (Or.inl rfl) rfl (tk_63 hT) ki_200 kcl_200 rfl rfl (by decide) (m_200 (d := d) (w := 1685024626) hT hI76 (LXp.up v73p.1 u76 (Or.inl (by decide)))) (kV (fun M82 hI82 fr82 v81p => ?_))
      have hFm82 := hFm76.call fr82 rfl
      have tr83 := rg_63_9 hI82
      refine s_aload_n kx_204_62 rfl ?_
      refine r_getR (k := 63) (f := 16) (k2 := 66) kx_204_63 kp_204_60 (tk_63 hT) kf_12_16 (by decide) (rq_63_16 hI82) ?_
      refine s_iload_n kx_204_66 rfl ?_
      refine s_aload_n kx_204_67 rfl ?_
      refine s_iconst (v := 1) kx_204_68 (by decide) ?_
      refine s_bipush (v := 9) kx_204_69 (by decide) ?_
      refine s_callV2 (k := 63) (s1 := 3) (s2 := 2) (as := [(0, 9), (0, 1)]) (rest := [(0, ((8 * v1) + v2)), rf 66]) kx_204_71 kp_204_398 (Or.inl rfl) rfl (tk_63 hT) ki_188 kcl_188 rfl rfl (by decide) (m_188 (d := d) (low := 1) (high := 9) hT hI82 v81p.1) (kW (fun v84 M85 hI85 fr85 v84p => ?_))
      have hFm85 := hFm82.call fr85 rfl
      have tr86 := rg_63_9 hI85
      refine r_ast (k := 66) kx_204_74 (tk_66 hT) ⟨by omega, by omega⟩ hI85 ru_66 (fun M87 hI87 u87 => ?_)
      have hFm87 := hFm85.up u87 rfl
      have tr88 := (u87.2 63 3 (by omega))
      have tr89 := (u87.2 63 4 (by omega))
      have tr90 := (u87.2 63 5 (by omega))
      have tr91 := (u87.2 63 9 (by omega))
      refine s_aload_n kx_204_75 rfl ?_
      refine s_ldc2_w kx_204_76 kp_204_293 ?_
      refine s_callV2 (k := 63) (s1 := 3) (s2 := 0) (as := [(1, 439905906546)]) (rest := []) kx_204_79 kp_204_394 (Or.inl rfl) rfl (tk_63 hT) ki_200 kcl_200 rfl rfl (by decide) (m_200 (d := d) (w := 439905906546) hT hI87 (LXp.up v84p.1 u87 (Or.inl (by decide)))) (kV (fun M93 hI93 fr93 v92p => ?_))
      have hFm93 := hFm87.call fr93 rfl
      have tr94 := rg_63_9 hI93
      refine s_aload_n kx_204_82 rfl ?_
      refine r_getR (k := 63) (f := 17) (k2 := 67) kx_204_83 kp_204_63 (tk_63 hT) kf_12_17 (by decide) (rq_63_17 hI93) ?_
      refine s_iload_n kx_204_86 rfl ?_
      refine s_aload_n kx_204_87 rfl ?_
      refine s_iconst (v := 1) kx_204_88 (by decide) ?_
      refine s_bipush (v := 99) kx_204_89 (by decide) ?_
      refine s_callV2 (k := 63) (s1 := 3) (s2 := 2) (as := [(0, 99), (0, 1)]) (rest := [(0, ((8 * v1) + v2)), rf 67]) kx_204_91 kp_204_398 (Or.inl rfl) rfl (tk_63 hT) ki_188 kcl_188 rfl rfl (by decide) (m_188 (d := d) (low := 1) (high := 99) hT hI93 v92p.1) (kW (fun v95 M96 hI96 fr96 v95p => ?_))
      have hFm96 := hFm93.call fr96 rfl
      have tr97 := rg_63_9 hI96
      refine r_ast (k := 67) kx_204_94 (tk_67 hT) ⟨by omega, by omega⟩ hI96 ru_67 (fun M98 hI98 u98 => ?_)
      have hFm98 := hFm96.up u98 rfl
      have tr99 := (u98.2 63 3 (by omega))
      have tr100 := (u98.2 63 4 (by omega))
      have tr101 := (u98.2 63 5 (by omega))
      have tr102 := (u98.2 63 9 (by omega))
      refine s_iconst (v := 0) kx_204_95 (by decide) ?_
      refine s_istore_n kx_204_96 km_204_2 rfl ?_
      have key105 : ∀ n106 : Nat, ∀ (x2_103 : Int), ∀ M104 : cM, Rng M104 → Fr fS_204_m M M104 → Fr fS_204_l97 M98 M104 → (0 ≤ x2_103) → (x2_103 ≤ 8) → (2147483647 - x2_103).toNat < n106 → cP k_P xs Ln (d + 3) 204 97 [(0, rf 63), (1, (0, ((8 * v1) + v2))), (2, (0, x2_103))] [] (T, M104) (qV T M fS_204_m (fun M1 => LXp M1 ∧ M 63 4 ≤ M1 63 4 ∧ M 63 9 ≤ M1 63 9 ∧ (PRd M M1))) := by
        intro n106
        induction n106 with
        | zero => intro x2_103 M104 hI104 hFm104 fl104 i107 i108 hm109; exact absurd hm109 (Nat.not_lt_zero _)
        | succ n106 ih110 =>
          intro x2_103 M104 hI104 hFm104 fl104 i107 i108 hm109
          have tr111 := fl104 63 4 rfl
          have tr112 := fl104 63 9 rfl
          have tr113 := rg_63_9 hI104
          refine s_iload_n kx_204_97 rfl ?_
          refine s_bipush (v := 8) kx_204_98 (by decide) ?_
          refine s_icmp_ge (t := 149) kx_204_100 (by decide) (fun hc114 => ?_) (fun hc114 => ?_)
          · refine s_aload_n kx_204_149 rfl ?_
            refine r_getI (k := 63) (f := 9) kx_204_150 kp_204_39 (tk_63 hT) kf_12_9 (fun _ => rfl) (rg_63_9 hI104) (fun v115 v115e v115a v115b => ?_)
            refine s_if_ne (t := 169) kx_204_153 (by decide) (fun hc116 => ?_) (fun hc116 => ?_)
            · have hk117 : M104 63 9 = v115 := v115e
              exact s_vret kx_204_169 kq_204 ⟨_, rfl, rfl, hI104, hFm104, ⟨(LXp.fr (LXp.up v95p.1 u98 (Or.inl (by decide))) fl104 rfl), (by omega), (by omega), (by unfold PRd; omega)⟩⟩
            · refine s_aload_n kx_204_156 rfl ?_
              refine r_getR (k := 63) (f := 15) (k2 := 65) kx_204_157 kp_204_57 (tk_63 hT) kf_12_15 (by decide) (rq_63_15 hI104) ?_
              refine s_aload_n kx_204_160 rfl ?_
              refine r_getK (k := 63) (f := 36) kx_204_161 kp_204_121 (tk_63 hT) kf_12_36 (fun _ => rfl) ((fl104 63 36 rfl).trans ((u98.2 63 36 (by omega)).trans ((fr96 63 36 rfl).trans ((fr93 63 36 rfl).trans ((u87.2 63 36 (by omega)).trans ((fr85 63 36 rfl).trans ((fr82 63 36 rfl).trans ((u76.2 63 36 (by omega)).trans ((fr74 63 36 rfl).trans ((fr70 63 36 rfl).trans v1e)))))))))) ?_
              refine s_dup2 kx_204_164 rfl rfl ?_
              refine r_aldK (k := 65) kx_204_165 (tk_65 hT) ⟨by omega, by omega⟩ ((fl104 65 _ rfl).trans ((u98.2 65 _ (by omega)).trans ((fr96 65 _ rfl).trans ((fr93 65 _ rfl).trans ((u87.2 65 _ (by omega)).trans ((fr85 65 _ rfl).trans ((fr82 65 _ rfl).trans ((u76.2 65 _ (by omega)).trans ((fr74 65 _ rfl).trans ((fr70 65 _ rfl).trans v2e)))))))))) ?_
              refine s_iconst (v := 1) kx_204_166 (by decide) ?_
              refine r_add kx_204_167 ⟨by omega, by omega⟩ ?_
              refine r_ast (k := 65) kx_204_168 (tk_65 hT) ⟨by omega, by omega⟩ hI104 (ru_65 (by omega) (by omega)) (fun M118 hI118 u118 => ?_)
              have hFm118 := hFm104.up u118 rfl
              have tr119 := (u118.2 63 3 (by omega))
              have tr120 := (u118.2 63 4 (by omega))
              have tr121 := (u118.2 63 5 (by omega))
              have tr122 := (u118.2 63 9 (by omega))
              have hk123 : M118 63 9 = v115 := ((u118.2 63 9 (by omega)).trans v115e)
              exact s_vret kx_204_169 kq_204 ⟨_, rfl, rfl, hI118, hFm118, ⟨(LXp.up (LXp.fr (LXp.up v95p.1 u98 (Or.inl (by decide))) fl104 rfl) u118 (Or.inl (by decide))), (by omega), (by omega), (by unfold PRd; omega)⟩⟩
          · refine s_aload_n kx_204_103 rfl ?_
            refine r_getR (k := 63) (f := 18) (k2 := 68) kx_204_104 kp_204_66 (tk_63 hT) kf_12_18 (by decide) (rq_63_18 hI104) ?_
            refine s_bipush (v := 8) kx_204_107 (by decide) ?_
            refine s_iload_n kx_204_109 rfl ?_
            refine r_mul kx_204_110 ⟨by omega, by omega⟩ ?_
            refine s_iload_n kx_204_111 rfl ?_
            refine r_add kx_204_112 ⟨by omega, by omega⟩ ?_
            refine s_iconst (v := 0) kx_204_113 (by decide) ?_
            refine r_ast (k := 68) kx_204_114 (tk_68 hT) ⟨by omega, by omega⟩ hI104 (ru_68 (by omega) (by omega)) (fun M124 hI124 u124 => ?_)
            have hFm124 := hFm104.up u124 rfl
            have hFl97124 := fl104.up u124 rfl
            have tr125 := (u124.2 63 3 (by omega))
            have tr126 := (u124.2 63 4 (by omega))
            have tr127 := (u124.2 63 5 (by omega))
            have tr128 := (u124.2 63 9 (by omega))
            refine s_aload_n kx_204_115 rfl ?_
            refine r_getR (k := 63) (f := 18) (k2 := 68) kx_204_116 kp_204_66 (tk_63 hT) kf_12_18 (by decide) (rq_63_18 hI124) ?_
            refine s_bipush (v := 8) kx_204_119 (by decide) ?_
            refine s_bipush (v := 8) kx_204_121 (by decide) ?_
            refine s_aload_n kx_204_123 rfl ?_
            refine r_getK (k := 63) (f := 36) kx_204_124 kp_204_121 (tk_63 hT) kf_12_36 (fun _ => rfl) ((u124.2 63 36 (by omega)).trans ((fl104 63 36 rfl).trans ((u98.2 63 36 (by omega)).trans ((fr96 63 36 rfl).trans ((fr93 63 36 rfl).trans ((u87.2 63 36 (by omega)).trans ((fr85 63 36 rfl).trans ((fr82 63 36 rfl).trans ((u76.2 63 36 (by omega)).trans ((fr74 63 36 rfl).trans ((fr70 63 36 rfl).trans v1e))))))))))) ?_
            refine r_mul kx_204_127 ⟨by omega, by omega⟩ ?_
            refine s_iload_n kx_204_128 rfl ?_
            refine r_add kx_204_129 ⟨by omega, by omega⟩ ?_
            refine r_mul kx_204_130 ⟨by omega, by omega⟩ ?_
            refine s_aload_n kx_204_131 rfl ?_
            refine r_getR (k := 63) (f := 15) (k2 := 65) kx_204_132 kp_204_57 (tk_63 hT) kf_12_15 (by decide) (rq_63_15 hI124) ?_
            refine s_aload_n kx_204_135 rfl ?_
            refine r_getK (k := 63) (f := 36) kx_204_136 kp_204_121 (tk_63 hT) kf_12_36 (fun _ => rfl) ((u124.2 63 36 (by omega)).trans ((fl104 63 36 rfl).trans ((u98.2 63 36 (by omega)).trans ((fr96 63 36 rfl).trans ((fr93 63 36 rfl).trans ((u87.2 63 36 (by omega)).trans ((fr85 63 36 rfl).trans ((fr82 63 36 rfl).trans ((u76.2 63 36 (by omega)).trans ((fr74 63 36 rfl).trans ((fr70 63 36 rfl).trans v1e))))))))))) ?_
            refine r_aldK (k := 65) kx_204_139 (tk_65 hT) ⟨by omega, by omega⟩ ((u124.2 65 _ (by omega)).trans ((fl104 65 _ rfl).trans ((u98.2 65 _ (by omega)).trans ((fr96 65 _ rfl).trans ((fr93 65 _ rfl).trans ((u87.2 65 _ (by omega)).trans ((fr85 65 _ rfl).trans ((fr82 65 _ rfl).trans ((u76.2 65 _ (by omega)).trans ((fr74 65 _ rfl).trans ((fr70 65 _ rfl).trans v2e))))))))))) ?_
            refine r_add kx_204_140 ⟨by omega, by omega⟩ ?_
            refine s_iconst (v := 0) kx_204_141 (by decide) ?_
            refine r_ast (k := 68) kx_204_142 (tk_68 hT) ⟨by omega, by omega⟩ hI124 (ru_68 (by omega) (by omega)) (fun M129 hI129 u129 => ?_)
            have hFm129 := hFm124.up u129 rfl
            have hFl97129 := hFl97124.up u129 rfl
            have tr130 := (u129.2 63 3 (by omega))
            have tr131 := (u129.2 63 4 (by omega))
            have tr132 := (u129.2 63 5 (by omega))
            have tr133 := (u129.2 63 9 (by omega))
            refine r_iinc kx_204_143 rfl km_204_2 (by decide) ⟨by omega, by omega⟩ rfl ?_
            refine s_goto (t := 97) kx_204_146 (by decide) ?_
            exact cP.wk (lS1 rfl (lS1 rfl (lS1 rfl lS0))) (ih110 (x2_103 + 1) M129 hI129 hFm129 hFl97129 (by omega) (by omega) (by omega))
      exact cP.wk (lS1 rfl (lS1 rfl (lS1 rfl lS0))) (key105 _ 0 M98 hI98 hFm98 Fr.refl (by omega) (by omega) (Nat.lt_succ_self _))
    · exact s_vret kx_204_26 kq_204 ⟨_, rfl, rfl, hI70, hFm70, ⟨v69p.1, (by omega), (by omega), (by unfold PRd; omega)⟩⟩
theorem kx_205_0 : x_code k_P 205 0 = some (.aload_n 0, 1) := by decide +kernel
theorem kx_205_1 : x_code k_P 205 1 = some (.iconst 0, 1) := by decide +kernel
theorem kx_205_2 : x_code k_P 205 2 = some (.invokevirtual 386, 3) := by decide +kernel
theorem kp_205_386 : x_pool k_P 205 386 = (2, 199, 1) := by decide +kernel
theorem kx_205_5 : x_code k_P 205 5 = some (.ifCond .ne 4, 3) := by decide +kernel
theorem kx_205_9 : x_code k_P 205 9 = some (.aload_n 0, 1) := by decide +kernel
theorem kx_205_10 : x_code k_P 205 10 = some (.iconst 0, 1) := by decide +kernel
theorem kx_205_11 : x_code k_P 205 11 = some (.invokevirtual 401, 3) := by decide +kernel
theorem kp_205_401 : x_pool k_P 205 401 = (2, 203, 1) := by decide +kernel
theorem ki_203 : x_mci k_P 203 = 12 := by decide +kernel
theorem kcl_203 : x_maxL k_P 203 ≤ 60 ∧ 2 ≤ x_maxL k_P 203 := by decide +kernel
theorem kx_205_14 : x_code k_P 205 14 = some (.istore_n 1, 1) := by decide +kernel
theorem km_205_1 : 1 < x_maxL k_P 205 := by decide +kernel
theorem kx_205_15 : x_code k_P 205 15 = some (.aload_n 0, 1) := by decide +kernel
theorem kx_205_16 : x_code k_P 205 16 = some (.iconst 0, 1) := by decide +kernel
theorem kx_205_17 : x_code k_P 205 17 = some (.invokevirtual 383, 3) := by decide +kernel
theorem kp_205_383 : x_pool k_P 205 383 = (2, 202, 1) := by decide +kernel
theorem kx_205_20 : x_code k_P 205 20 = some (.istore_n 2, 1) := by decide +kernel
theorem km_205_2 : 2 < x_maxL k_P 205 := by decide +kernel
theorem kx_205_21 : x_code k_P 205 21 = some (.aload_n 0, 1) := by decide +kernel
theorem kx_205_22 : x_code k_P 205 22 = some (.getfield 39, 3) := by decide +kernel
theorem kp_205_39 : x_pool k_P 205 39 = (1, 12, 9) := by decide +kernel
theorem kx_205_25 : x_code k_P 205 25 = some (.ifCond .ne 17, 3) := by decide +kernel
theorem kx_205_42 : x_code k_P 205 42 = some (.aload_n 0, 1) := by decide +kernel
theorem kx_205_43 : x_code k_P 205 43 = some (.getfield 39, 3) := by decide +kernel
theorem kx_205_46 : x_code k_P 205 46 = some (.ifCond .le 4, 3) := by decide +kernel
theorem kx_205_49 : x_code k_P 205 49 = some (.return_, 1) := by decide +kernel
theorem kq_205 : x_retk k_P 205 = 0 := by decide +kernel
theorem kx_205_28 : x_code k_P 205 28 = some (.iload_n 1, 1) := by decide +kernel
theorem kx_205_29 : x_code k_P 205 29 = some (.iload_n 2, 1) := by decide +kernel
theorem kx_205_30 : x_code k_P 205 30 = some (.if_icmp .ne 12, 3) := by decide +kernel
theorem kx_205_50 : x_code k_P 205 50 = some (.aload_n 0, 1) := by decide +kernel
theorem kx_205_51 : x_code k_P 205 51 = some (.invokevirtual 286, 3) := by decide +kernel
theorem kp_205_286 : x_pool k_P 205 286 = (2, 180, 0) := by decide +kernel
theorem kx_205_54 : x_code k_P 205 54 = some (.aload_n 0, 1) := by decide +kernel
theorem kx_205_55 : x_code k_P 205 55 = some (.ldc2_w 297, 3) := by decide +kernel
theorem kp_205_297 : x_pool k_P 205 297 = (8, 0, 499850634611) := by decide +kernel
theorem kx_205_58 : x_code k_P 205 58 = some (.invokevirtual 394, 3) := by decide +kernel
theorem kp_205_394 : x_pool k_P 205 394 = (2, 200, 1) := by decide +kernel
theorem kx_205_61 : x_code k_P 205 61 = some (.aload_n 0, 1) := by decide +kernel
theorem kx_205_62 : x_code k_P 205 62 = some (.iconst 1, 1) := by decide +kernel
theorem kx_205_63 : x_code k_P 205 63 = some (.bipush 60, 2) := by decide +kernel
theorem kx_205_65 : x_code k_P 205 65 = some (.invokevirtual 398, 3) := by decide +kernel
theorem kp_205_398 : x_pool k_P 205 398 = (2, 188, 2) := by decide +kernel
theorem kx_205_68 : x_code k_P 205 68 = some (.istore_n 3, 1) := by decide +kernel
theorem km_205_3 : 3 < x_maxL k_P 205 := by decide +kernel
theorem kx_205_69 : x_code k_P 205 69 = some (.aload_n 0, 1) := by decide +kernel
theorem kx_205_70 : x_code k_P 205 70 = some (.getfield 39, 3) := by decide +kernel
theorem kx_205_73 : x_code k_P 205 73 = some (.ifCond .le 4, 3) := by decide +kernel
theorem kx_205_77 : x_code k_P 205 77 = some (.aload_n 0, 1) := by decide +kernel
theorem kx_205_78 : x_code k_P 205 78 = some (.getfield 66, 3) := by decide +kernel
theorem kp_205_66 : x_pool k_P 205 66 = (1, 12, 18) := by decide +kernel
theorem kx_205_81 : x_code k_P 205 81 = some (.bipush 8, 2) := by decide +kernel
theorem kx_205_83 : x_code k_P 205 83 = some (.bipush 8, 2) := by decide +kernel
theorem kx_205_85 : x_code k_P 205 85 = some (.aload_n 0, 1) := by decide +kernel
theorem kx_205_86 : x_code k_P 205 86 = some (.getfield 121, 3) := by decide +kernel
theorem kp_205_121 : x_pool k_P 205 121 = (1, 12, 36) := by decide +kernel
theorem kx_205_89 : x_code k_P 205 89 = some (.imul, 1) := by decide +kernel
theorem kx_205_90 : x_code k_P 205 90 = some (.iload_n 1, 1) := by decide +kernel
theorem kx_205_91 : x_code k_P 205 91 = some (.iadd, 1) := by decide +kernel
theorem kx_205_92 : x_code k_P 205 92 = some (.imul, 1) := by decide +kernel
theorem kx_205_93 : x_code k_P 205 93 = some (.iload_n 2, 1) := by decide +kernel
theorem kx_205_94 : x_code k_P 205 94 = some (.iadd, 1) := by decide +kernel
theorem kx_205_95 : x_code k_P 205 95 = some (.iload_n 3, 1) := by decide +kernel
theorem kx_205_96 : x_code k_P 205 96 = some (.iastore, 1) := by decide +kernel
theorem kx_205_97 : x_code k_P 205 97 = some (.aload_n 0, 1) := by decide +kernel
theorem kx_205_98 : x_code k_P 205 98 = some (.getfield 66, 3) := by decide +kernel
theorem kx_205_101 : x_code k_P 205 101 = some (.bipush 8, 2) := by decide +kernel
theorem kx_205_103 : x_code k_P 205 103 = some (.bipush 8, 2) := by decide +kernel
theorem kx_205_105 : x_code k_P 205 105 = some (.aload_n 0, 1) := by decide +kernel
theorem kx_205_106 : x_code k_P 205 106 = some (.getfield 121, 3) := by decide +kernel
theorem kx_205_109 : x_code k_P 205 109 = some (.imul, 1) := by decide +kernel
theorem kx_205_110 : x_code k_P 205 110 = some (.iload_n 2, 1) := by decide +kernel
theorem kx_205_111 : x_code k_P 205 111 = some (.iadd, 1) := by decide +kernel
theorem kx_205_112 : x_code k_P 205 112 = some (.imul, 1) := by decide +kernel
theorem kx_205_113 : x_code k_P 205 113 = some (.iload_n 1, 1) := by decide +kernel
theorem kx_205_114 : x_code k_P 205 114 = some (.iadd, 1) := by decide +kernel
theorem kx_205_115 : x_code k_P 205 115 = some (.iload_n 3, 1) := by decide +kernel
theorem kx_205_116 : x_code k_P 205 116 = some (.iastore, 1) := by decide +kernel
theorem kx_205_117 : x_code k_P 205 117 = some (.return_, 1) := by decide +kernel
theorem kx_205_76 : x_code k_P 205 76 = some (.return_, 1) := by decide +kernel
theorem kx_205_33 : x_code k_P 205 33 = some (.aload_n 0, 1) := by decide +kernel
theorem kx_205_34 : x_code k_P 205 34 = some (.iconst 3, 1) := by decide +kernel
theorem kx_205_35 : x_code k_P 205 35 = some (.aload_n 0, 1) := by decide +kernel
theorem kx_205_36 : x_code k_P 205 36 = some (.getfield 23, 3) := by decide +kernel
theorem kp_205_23 : x_pool k_P 205 23 = (1, 12, 4) := by decide +kernel
theorem kx_205_39 : x_code k_P 205 39 = some (.invokevirtual 263, 3) := by decide +kernel
theorem kp_205_263 : x_pool k_P 205 263 = (2, 176, 2) := by decide +kernel
theorem kx_205_8 : x_code k_P 205 8 = some (.return_, 1) := by decide +kernel
def fS_205_m : List (Nat × Nat) := [(63, 10), (63, 13), (63, 3), (63, 4), (63, 5), (63, 6), (63, 7), (63, 8), (63, 9), (68, 99999)]
theorem m_205 {xs : Nat → Int} {Ln d : Nat} {T : List cK} {M : cM} (hT : TT T) (hI : Rng M) (hX : LXp M) (p0 : M 63 4 + 1 ≤ M 63 5) : cC k_P xs Ln (d + 4) 205 [rf 63] (T, M) (qV T M fS_205_m (fun M1 => LXp M1 ∧ M 63 4 ≤ M1 63 4 ∧ M 63 9 ≤ M1 63 9 ∧ (PRd M M1))) := by
  show cP k_P xs Ln (d + 4) 205 0 [(0, rf 63)] [] (T, M) _
  have hFm : Fr fS_205_m M M := Fr.refl
  have h639 := rg_63_9 hI
  refine s_aload_n kx_205_0 rfl ?_
  refine s_iconst (v := 0) kx_205_1 (by decide) ?_
  refine s_callV2 (k := 63) (s1 := 2) (s2 := 0) (as := [(0, 0)]) (rest := []) kx_205_2 kp_205_386 (Or.inl rfl) rfl (tk_63 hT) ki_199 kcl_199 rfl rfl (by decide) (m_199 (d := d + 1) (full := 0) hT hI hX (by omega)) (kW (fun v1 M2 hI2 fr2 v1p => ?_))
  have hFm2 := hFm.call fr2 rfl
  have tr3 := rg_63_9 hI2
  refine s_if_ne (t := 9) kx_205_5 (by decide) (fun hc4 => ?_) (fun hc4 => ?_)
  · refine s_aload_n kx_205_9 rfl ?_
    refine s_iconst (v := 0) kx_205_10 (by decide) ?_
    refine s_callV2 (k := 63) (s1 := 2) (s2 := 0) (as := [(0, 0)]) (rest := []) kx_205_11 kp_205_401 (Or.inl rfl) rfl (tk_63 hT) ki_203 kcl_203 rfl rfl (by decide) (m_203 (d := d) (kind := 0) hT hI2 v1p.1) (kW (fun v5 M6 hI6 fr6 v5p => ?_))
    have hFm6 := hFm2.call fr6 rfl
    have tr7 := rg_63_9 hI6
    refine s_istore_n kx_205_14 km_205_1 rfl ?_
    refine s_aload_n kx_205_15 rfl ?_
    refine s_iconst (v := 0) kx_205_16 (by decide) ?_
    refine s_callV2 (k := 63) (s1 := 2) (s2 := 0) (as := [(0, 0)]) (rest := []) kx_205_17 kp_205_383 (Or.inl rfl) rfl (tk_63 hT) ki_202 kcl_202 rfl rfl (by decide) (m_202 (d := d + 1) (kind := 0) hT hI6) (kW (fun v8 M9 hI9 fr9 v8p => ?_))
    have hFm9 := hFm6.call fr9 rfl
    have tr10 := (fr9 63 3 rfl)
    have tr11 := (fr9 63 4 rfl)
    have tr12 := (fr9 63 5 rfl)
    have tr13 := rg_63_9 hI9
    refine s_istore_n kx_205_20 km_205_2 rfl ?_
    refine s_aload_n kx_205_21 rfl ?_
    refine r_getI (k := 63) (f := 9) kx_205_22 kp_205_39 (tk_63 hT) kf_12_9 (fun _ => rfl) (rg_63_9 hI9) (fun v14 v14e v14a v14b => ?_)
    refine s_if_ne (t := 42) kx_205_25 (by decide) (fun hc15 => ?_) (fun hc15 => ?_)
    · refine s_aload_n kx_205_42 rfl ?_
      refine r_getK (k := 63) (f := 9) kx_205_43 kp_205_39 (tk_63 hT) kf_12_9 (fun _ => rfl) v14e ?_
      refine s_if_le (t := 50) kx_205_46 (by decide) (fun hc16 => absurd hc16 (by omega)) (fun hc16 => ?_)
      have hk17 : M9 63 9 = v14 := v14e
      exact s_vret kx_205_49 kq_205 ⟨_, rfl, rfl, hI9, hFm9, ⟨(LXp.fr v5p.2.2.1 fr9 rfl), (by omega), (by omega), (by unfold PRd; omega)⟩⟩
    · refine s_iload_n kx_205_28 rfl ?_
      refine s_iload_n kx_205_29 rfl ?_
      refine s_icmp_ne (t := 42) kx_205_30 (by decide) (fun hc18 => ?_) (fun hc18 => ?_)
      · refine s_aload_n kx_205_42 rfl ?_
        refine r_getK (k := 63) (f := 9) kx_205_43 kp_205_39 (tk_63 hT) kf_12_9 (fun _ => rfl) v14e ?_
        refine s_if_le (t := 50) kx_205_46 (by decide) (fun hc19 => ?_) (fun hc19 => absurd hc19 (by omega))
        refine s_aload_n kx_205_50 rfl ?_
        have hl20 := (show LXp M9 from (LXp.fr v5p.2.2.1 fr9 rfl)).1
        refine s_callV2 (k := 63) (s1 := 1) (s2 := 0) (as := []) (rest := []) kx_205_51 kp_205_286 (Or.inl rfl) rfl (tk_63 hT) ki_180 kcl_180 rfl rfl (by decide) (m_180 (d := d + 2) hT hI9) (kV (fun M22 hI22 fr22 v21p => ?_))
        have hFm22 := hFm9.call fr22 rfl
        have tr23 := (fr22 63 9 rfl)
        have tr24 := rg_63_9 hI22
        refine s_aload_n kx_205_54 rfl ?_
        refine s_ldc2_w kx_205_55 kp_205_297 ?_
        refine s_callV2 (k := 63) (s1 := 3) (s2 := 0) (as := [(1, 499850634611)]) (rest := []) kx_205_58 kp_205_394 (Or.inl rfl) rfl (tk_63 hT) ki_200 kcl_200 rfl rfl (by decide) (m_200 (d := d + 1) (w := 499850634611) hT hI22 (show LXp M22 from v21p.2)) (kV (fun M26 hI26 fr26 v25p => ?_))
        have hFm26 := hFm22.call fr26 rfl
        have tr27 := rg_63_9 hI26
        refine s_aload_n kx_205_61 rfl ?_
        refine s_iconst (v := 1) kx_205_62 (by decide) ?_
        refine s_bipush (v := 60) kx_205_63 (by decide) ?_
        refine s_callV2 (k := 63) (s1 := 3) (s2 := 0) (as := [(0, 60), (0, 1)]) (rest := []) kx_205_65 kp_205_398 (Or.inl rfl) rfl (tk_63 hT) ki_188 kcl_188 rfl rfl (by decide) (m_188 (d := d + 1) (low := 1) (high := 60) hT hI26 v25p.1) (kW (fun v28 M29 hI29 fr29 v28p => ?_))
        have hFm29 := hFm26.call fr29 rfl
        have tr30 := rg_63_9 hI29
        have hnb := v28p.2.2.2
        unfold NBd at hnb
        refine s_istore_n kx_205_68 km_205_3 rfl ?_
        refine s_aload_n kx_205_69 rfl ?_
        refine r_getI (k := 63) (f := 9) kx_205_70 kp_205_39 (tk_63 hT) kf_12_9 (fun _ => rfl) (rg_63_9 hI29) (fun v31 v31e v31a v31b => ?_)
        refine s_if_le (t := 77) kx_205_73 (by decide) (fun hc32 => ?_) (fun hc32 => ?_)
        · refine s_aload_n kx_205_77 rfl ?_
          refine r_getR (k := 63) (f := 18) (k2 := 68) kx_205_78 kp_205_66 (tk_63 hT) kf_12_18 (by decide) (rq_63_18 hI29) ?_
          refine s_bipush (v := 8) kx_205_81 (by decide) ?_
          refine s_bipush (v := 8) kx_205_83 (by decide) ?_
          refine s_aload_n kx_205_85 rfl ?_
          refine r_getI (k := 63) (f := 36) kx_205_86 kp_205_121 (tk_63 hT) kf_12_36 (fun _ => rfl) (rg_63_36 hI29) (fun v33 v33e v33a v33b => ?_)
          have v33z : M 63 36 = v33 := (((fr29 63 36 rfl).trans ((fr26 63 36 rfl).trans ((fr22 63 36 rfl).trans ((fr9 63 36 rfl).trans ((fr6 63 36 rfl).trans (fr2 63 36 rfl))))))).symm.trans v33e
          refine r_mul kx_205_89 ⟨by omega, by omega⟩ ?_
          refine s_iload_n kx_205_90 rfl ?_
          refine r_add kx_205_91 ⟨by omega, by omega⟩ ?_
          refine r_mul kx_205_92 ⟨by omega, by omega⟩ ?_
          refine s_iload_n kx_205_93 rfl ?_
          refine r_add kx_205_94 ⟨by omega, by omega⟩ ?_
          refine s_iload_n kx_205_95 rfl ?_
          refine r_ast (k := 68) kx_205_96 (tk_68 hT) ⟨by omega, by omega⟩ hI29 (ru_68 (by omega) (by omega)) (fun M34 hI34 u34 => ?_)
          have hFm34 := hFm29.up u34 rfl
          have tr35 := (u34.2 63 3 (by omega))
          have tr36 := (u34.2 63 4 (by omega))
          have tr37 := (u34.2 63 5 (by omega))
          have tr38 := (u34.2 63 9 (by omega))
          refine s_aload_n kx_205_97 rfl ?_
          refine r_getR (k := 63) (f := 18) (k2 := 68) kx_205_98 kp_205_66 (tk_63 hT) kf_12_18 (by decide) (rq_63_18 hI34) ?_
          refine s_bipush (v := 8) kx_205_101 (by decide) ?_
          refine s_bipush (v := 8) kx_205_103 (by decide) ?_
          refine s_aload_n kx_205_105 rfl ?_
          refine r_getK (k := 63) (f := 36) kx_205_106 kp_205_121 (tk_63 hT) kf_12_36 (fun _ => rfl) ((u34.2 63 36 (by omega)).trans v33e) ?_
          refine r_mul kx_205_109 ⟨by omega, by omega⟩ ?_
          refine s_iload_n kx_205_110 rfl ?_
          refine r_add kx_205_111 ⟨by omega, by omega⟩ ?_
          refine r_mul kx_205_112 ⟨by omega, by omega⟩ ?_
          refine s_iload_n kx_205_113 rfl ?_
          refine r_add kx_205_114 ⟨by omega, by omega⟩ ?_
          refine s_iload_n kx_205_115 rfl ?_
          refine r_ast (k := 68) kx_205_116 (tk_68 hT) ⟨by omega, by omega⟩ hI34 (ru_68 (by omega) (by omega)) (fun M39 hI39 u39 => ?_)
          have hFm39 := hFm34.up u39 rfl
          have tr40 := (u39.2 63 3 (by omega))
          have tr41 := (u39.2 63 4 (by omega))
          have tr42 := (u39.2 63 5 (by omega))
          have tr43 := (u39.2 63 9 (by omega))
          have hk44 : M39 63 9 = v31 := ((u39.2 63 9 (by omega)).trans ((u34.2 63 9 (by omega)).trans v31e))
          exact s_vret kx_205_117 kq_205 ⟨_, rfl, rfl, hI39, hFm39, ⟨(LXp.up (LXp.up v28p.1 u34 (Or.inl (by decide))) u39 (Or.inl (by decide))), (by omega), (by omega), (by unfold PRd; omega)⟩⟩
        · have hk45 : M29 63 9 = v31 := v31e
          exact s_vret kx_205_76 kq_205 ⟨_, rfl, rfl, hI29, hFm29, ⟨v28p.1, (by omega), (by omega), (by unfold PRd; omega)⟩⟩
      · refine s_aload_n kx_205_33 rfl ?_
        refine s_iconst (v := 3) kx_205_34 (by decide) ?_
        refine s_aload_n kx_205_35 rfl ?_
        refine r_getI (k := 63) (f := 4) kx_205_36 kp_205_23 (tk_63 hT) kf_12_4 (fun _ => rfl) (rg_63_4 hI9) (fun v46 v46e v46a v46b => ?_)
        refine s_callV2 (k := 63) (s1 := 3) (s2 := 0) (as := [(0, v46), (0, 3)]) (rest := []) kx_205_39 kp_205_263 (Or.inl rfl) rfl (tk_63 hT) ki_176 kcl_176 rfl rfl (by decide) (m_176 (d := d + 3) (kind := 3) (place := v46) hT hI9 (by omega)) (kV (fun M48 hI48 fr48 v47p => ?_))
        have hFm48 := hFm9.call fr48 rfl
        have tr49 := (fr48 63 3 rfl)
        have tr50 := (fr48 63 4 rfl)
        have tr51 := (fr48 63 5 rfl)
        have tr52 := rg_63_9 hI48
        refine s_aload_n kx_205_42 rfl ?_
        refine r_getI (k := 63) (f := 9) kx_205_43 kp_205_39 (tk_63 hT) kf_12_9 (fun _ => rfl) (rg_63_9 hI48) (fun v53 v53e v53a v53b => ?_)
        refine s_if_le (t := 50) kx_205_46 (by decide) (fun hc54 => ?_) (fun hc54 => ?_)
        · refine s_aload_n kx_205_50 rfl ?_
          have hl55 := (show LXp M48 from (LXp.fr (LXp.fr v5p.2.2.1 fr9 rfl) fr48 rfl)).1
          refine s_callV2 (k := 63) (s1 := 1) (s2 := 0) (as := []) (rest := []) kx_205_51 kp_205_286 (Or.inl rfl) rfl (tk_63 hT) ki_180 kcl_180 rfl rfl (by decide) (m_180 (d := d + 2) hT hI48) (kV (fun M57 hI57 fr57 v56p => ?_))
          have hFm57 := hFm48.call fr57 rfl
          have tr58 := (fr57 63 9 rfl)
          have tr59 := rg_63_9 hI57
          refine s_aload_n kx_205_54 rfl ?_
          refine s_ldc2_w kx_205_55 kp_205_297 ?_
          refine s_callV2 (k := 63) (s1 := 3) (s2 := 0) (as := [(1, 499850634611)]) (rest := []) kx_205_58 kp_205_394 (Or.inl rfl) rfl (tk_63 hT) ki_200 kcl_200 rfl rfl (by decide) (m_200 (d := d + 1) (w := 499850634611) hT hI57 (show LXp M57 from v56p.2)) (kV (fun M61 hI61 fr61 v60p => ?_))
          have hFm61 := hFm57.call fr61 rfl
          have tr62 := rg_63_9 hI61
          refine s_aload_n kx_205_61 rfl ?_
          refine s_iconst (v := 1) kx_205_62 (by decide) ?_
          refine s_bipush (v := 60) kx_205_63 (by decide) ?_
          refine s_callV2 (k := 63) (s1 := 3) (s2 := 0) (as := [(0, 60), (0, 1)]) (rest := []) kx_205_65 kp_205_398 (Or.inl rfl) rfl (tk_63 hT) ki_188 kcl_188 rfl rfl (by decide) (m_188 (d := d + 1) (low := 1) (high := 60) hT hI61 v60p.1) (kW (fun v63 M64 hI64 fr64 v63p => ?_))
          have hFm64 := hFm61.call fr64 rfl
          have tr65 := rg_63_9 hI64
          have hnb := v63p.2.2.2
          unfold NBd at hnb
          refine s_istore_n kx_205_68 km_205_3 rfl ?_
          refine s_aload_n kx_205_69 rfl ?_
          refine r_getI (k := 63) (f := 9) kx_205_70 kp_205_39 (tk_63 hT) kf_12_9 (fun _ => rfl) (rg_63_9 hI64) (fun v66 v66e v66a v66b => ?_)
          refine s_if_le (t := 77) kx_205_73 (by decide) (fun hc67 => ?_) (fun hc67 => ?_)
          · refine s_aload_n kx_205_77 rfl ?_
            refine r_getR (k := 63) (f := 18) (k2 := 68) kx_205_78 kp_205_66 (tk_63 hT) kf_12_18 (by decide) (rq_63_18 hI64) ?_
            refine s_bipush (v := 8) kx_205_81 (by decide) ?_
            refine s_bipush (v := 8) kx_205_83 (by decide) ?_
            refine s_aload_n kx_205_85 rfl ?_
            refine r_getI (k := 63) (f := 36) kx_205_86 kp_205_121 (tk_63 hT) kf_12_36 (fun _ => rfl) (rg_63_36 hI64) (fun v68 v68e v68a v68b => ?_)
            have v68z : M 63 36 = v68 := (((fr64 63 36 rfl).trans ((fr61 63 36 rfl).trans ((fr57 63 36 rfl).trans ((fr48 63 36 rfl).trans ((fr9 63 36 rfl).trans ((fr6 63 36 rfl).trans (fr2 63 36 rfl)))))))).symm.trans v68e
            refine r_mul kx_205_89 ⟨by omega, by omega⟩ ?_
            refine s_iload_n kx_205_90 rfl ?_
            refine r_add kx_205_91 ⟨by omega, by omega⟩ ?_
            refine r_mul kx_205_92 ⟨by omega, by omega⟩ ?_
            refine s_iload_n kx_205_93 rfl ?_
            refine r_add kx_205_94 ⟨by omega, by omega⟩ ?_
            refine s_iload_n kx_205_95 rfl ?_
            refine r_ast (k := 68) kx_205_96 (tk_68 hT) ⟨by omega, by omega⟩ hI64 (ru_68 (by omega) (by omega)) (fun M69 hI69 u69 => ?_)
            have hFm69 := hFm64.up u69 rfl
            have tr70 := (u69.2 63 3 (by omega))
            have tr71 := (u69.2 63 4 (by omega))
            have tr72 := (u69.2 63 5 (by omega))
            have tr73 := (u69.2 63 9 (by omega))
            refine s_aload_n kx_205_97 rfl ?_
            refine r_getR (k := 63) (f := 18) (k2 := 68) kx_205_98 kp_205_66 (tk_63 hT) kf_12_18 (by decide) (rq_63_18 hI69) ?_
            refine s_bipush (v := 8) kx_205_101 (by decide) ?_
            refine s_bipush (v := 8) kx_205_103 (by decide) ?_
            refine s_aload_n kx_205_105 rfl ?_
            refine r_getK (k := 63) (f := 36) kx_205_106 kp_205_121 (tk_63 hT) kf_12_36 (fun _ => rfl) ((u69.2 63 36 (by omega)).trans v68e) ?_
            refine r_mul kx_205_109 ⟨by omega, by omega⟩ ?_
            refine s_iload_n kx_205_110 rfl ?_
            refine r_add kx_205_111 ⟨by omega, by omega⟩ ?_
            refine r_mul kx_205_112 ⟨by omega, by omega⟩ ?_
            refine s_iload_n kx_205_113 rfl ?_
            refine r_add kx_205_114 ⟨by omega, by omega⟩ ?_
            refine s_iload_n kx_205_115 rfl ?_
            refine r_ast (k := 68) kx_205_116 (tk_68 hT) ⟨by omega, by omega⟩ hI69 (ru_68 (by omega) (by omega)) (fun M74 hI74 u74 => ?_)
            have hFm74 := hFm69.up u74 rfl
            have tr75 := (u74.2 63 3 (by omega))
            have tr76 := (u74.2 63 4 (by omega))
            have tr77 := (u74.2 63 5 (by omega))
            have tr78 := (u74.2 63 9 (by omega))
            have hk79 : M74 63 9 = v66 := ((u74.2 63 9 (by omega)).trans ((u69.2 63 9 (by omega)).trans v66e))
            exact s_vret kx_205_117 kq_205 ⟨_, rfl, rfl, hI74, hFm74, ⟨(LXp.up (LXp.up v63p.1 u69 (Or.inl (by decide))) u74 (Or.inl (by decide))), (by omega), (by omega), (by unfold PRd; omega)⟩⟩
          · have hk80 : M64 63 9 = v66 := v66e
            exact s_vret kx_205_76 kq_205 ⟨_, rfl, rfl, hI64, hFm64, ⟨v63p.1, (by omega), (by omega), (by unfold PRd; omega)⟩⟩
        · have hk81 : M48 63 4 = v46 := ((fr48 63 4 rfl).trans v46e)
          have hk82 : M48 63 9 = v53 := v53e
          exact s_vret kx_205_49 kq_205 ⟨_, rfl, rfl, hI48, hFm48, ⟨(LXp.fr (LXp.fr v5p.2.2.1 fr9 rfl) fr48 rfl), (by omega), (by omega), (by unfold PRd; omega)⟩⟩
  · exact s_vret kx_205_8 kq_205 ⟨_, rfl, rfl, hI2, hFm2, ⟨v1p.1, (by omega), (by omega), (by unfold PRd; omega)⟩⟩
theorem kx_206_0 : x_code k_P 206 0 = some (.iconst 0, 1) := by decide +kernel
theorem kx_206_1 : x_code k_P 206 1 = some (.istore_n 2, 1) := by decide +kernel
theorem km_206_2 : 2 < x_maxL k_P 206 := by decide +kernel
theorem kx_206_2 : x_code k_P 206 2 = some (.iconst 0, 1) := by decide +kernel
theorem kx_206_3 : x_code k_P 206 3 = some (.istore_n 3, 1) := by decide +kernel
theorem km_206_3 : 3 < x_maxL k_P 206 := by decide +kernel
theorem kx_206_4 : x_code k_P 206 4 = some (.iload_n 3, 1) := by decide +kernel
theorem kx_206_5 : x_code k_P 206 5 = some (.aload_n 0, 1) := by decide +kernel
theorem kx_206_6 : x_code k_P 206 6 = some (.getfield 69, 3) := by decide +kernel
theorem kp_206_69 : x_pool k_P 206 69 = (1, 12, 19) := by decide +kernel
theorem kx_206_9 : x_code k_P 206 9 = some (.aload_n 0, 1) := by decide +kernel
theorem kx_206_10 : x_code k_P 206 10 = some (.getfield 121, 3) := by decide +kernel
theorem kp_206_121 : x_pool k_P 206 121 = (1, 12, 36) := by decide +kernel
theorem kx_206_13 : x_code k_P 206 13 = some (.iaload, 1) := by decide +kernel
theorem kx_206_14 : x_code k_P 206 14 = some (.if_icmp .ge 48, 3) := by decide +kernel
theorem kx_206_62 : x_code k_P 206 62 = some (.iload_n 2, 1) := by decide +kernel
theorem kx_206_63 : x_code k_P 206 63 = some (.ireturn, 1) := by decide +kernel
theorem kq_206 : x_retk k_P 206 = 1 := by decide +kernel
theorem kx_206_17 : x_code k_P 206 17 = some (.iload_n 2, 1) := by decide +kernel
theorem kx_206_18 : x_code k_P 206 18 = some (.aload_n 0, 1) := by decide +kernel
theorem kx_206_19 : x_code k_P 206 19 = some (.getfield 81, 3) := by decide +kernel
theorem kp_206_81 : x_pool k_P 206 81 = (1, 12, 23) := by decide +kernel
theorem kx_206_22 : x_code k_P 206 22 = some (.bipush 8, 2) := by decide +kernel
theorem kx_206_24 : x_code k_P 206 24 = some (.aload_n 0, 1) := by decide +kernel
theorem kx_206_25 : x_code k_P 206 25 = some (.getfield 121, 3) := by decide +kernel
theorem kx_206_28 : x_code k_P 206 28 = some (.imul, 1) := by decide +kernel
theorem kx_206_29 : x_code k_P 206 29 = some (.iload_n 3, 1) := by decide +kernel
theorem kx_206_30 : x_code k_P 206 30 = some (.iadd, 1) := by decide +kernel
theorem kx_206_31 : x_code k_P 206 31 = some (.iaload, 1) := by decide +kernel
theorem kx_206_32 : x_code k_P 206 32 = some (.iload_n 1, 1) := by decide +kernel
theorem kx_206_33 : x_code k_P 206 33 = some (.if_icmp .ne 20, 3) := by decide +kernel
theorem kx_206_53 : x_code k_P 206 53 = some (.iconst 0, 1) := by decide +kernel
theorem kx_206_54 : x_code k_P 206 54 = some (.iadd, 1) := by decide +kernel
theorem kx_206_55 : x_code k_P 206 55 = some (.istore_n 2, 1) := by decide +kernel
theorem kx_206_56 : x_code k_P 206 56 = some (.iinc 3 1, 3) := by decide +kernel
theorem kx_206_59 : x_code k_P 206 59 = some (.goto (-55), 3) := by decide +kernel
theorem kx_206_36 : x_code k_P 206 36 = some (.aload_n 0, 1) := by decide +kernel
theorem kx_206_37 : x_code k_P 206 37 = some (.getfield 78, 3) := by decide +kernel
theorem kp_206_78 : x_pool k_P 206 78 = (1, 12, 22) := by decide +kernel
theorem kx_206_40 : x_code k_P 206 40 = some (.bipush 8, 2) := by decide +kernel
theorem kx_206_42 : x_code k_P 206 42 = some (.aload_n 0, 1) := by decide +kernel
theorem kx_206_43 : x_code k_P 206 43 = some (.getfield 121, 3) := by decide +kernel
theorem kx_206_46 : x_code k_P 206 46 = some (.imul, 1) := by decide +kernel
theorem kx_206_47 : x_code k_P 206 47 = some (.iload_n 3, 1) := by decide +kernel
theorem kx_206_48 : x_code k_P 206 48 = some (.iadd, 1) := by decide +kernel
theorem kx_206_49 : x_code k_P 206 49 = some (.iaload, 1) := by decide +kernel
theorem kx_206_50 : x_code k_P 206 50 = some (.goto 4, 3) := by decide +kernel
theorem m_206 {xs : Nat → Int} {Ln d : Nat} {T : List cK} {M : cM} (hT : TT T) (hI : Rng M) {r : Int} : cC k_P xs Ln (d + 0) 206 [rf 63, (0, r)] (T, M) (qF T M 0 (fun v => True)) := by
  show cP k_P xs Ln (d + 0) 206 0 [(0, rf 63), (1, (0, r))] [] (T, M) _
  refine s_iconst (v := 0) kx_206_0 (by decide) ?_
  refine s_istore_n kx_206_1 km_206_2 rfl ?_
  refine s_iconst (v := 0) kx_206_2 (by decide) ?_
  refine s_istore_n kx_206_3 km_206_3 rfl ?_
  have key3 : ∀ n4 : Nat, ∀ (x2_1 x3_2 : Int), (0 ≤ x3_2) → (2147483647 - x3_2).toNat < n4 → cP k_P xs Ln (d + 0) 206 4 [(0, rf 63), (1, (0, r)), (2, (0, x2_1)), (3, (0, x3_2))] [] (T, M) (qF T M 0 (fun v => True)) := by
    intro n4
    induction n4 with
    | zero => intro x2_1 x3_2 i5 hm6; exact absurd hm6 (Nat.not_lt_zero _)
    | succ n4 ih7 =>
      intro x2_1 x3_2 i5 hm6
      refine s_iload_n kx_206_4 rfl ?_
      refine s_aload_n kx_206_5 rfl ?_
      refine r_getR (k := 63) (f := 19) (k2 := 69) kx_206_6 kp_206_69 (tk_63 hT) kf_12_19 (by decide) (rq_63_19 hI) ?_
      refine s_aload_n kx_206_9 rfl ?_
      refine r_getI (k := 63) (f := 36) kx_206_10 kp_206_121 (tk_63 hT) kf_12_36 (fun _ => rfl) (rg_63_36 hI) (fun v8 v8e v8a v8b => ?_)
      refine r_ald (k := 69) kx_206_13 (tk_69 hT) ⟨by omega, by omega⟩ (rg_69 hI) (fun v9 v9e v9a v9b => ?_)
      refine s_icmp_ge (t := 62) kx_206_14 (by decide) (fun hc10 => ?_) (fun hc10 => ?_)
      · refine s_iload_n kx_206_62 rfl ?_
        exact s_iret kx_206_63 (Or.inl kq_206) ⟨_, rfl, rfl, trivial⟩
      · refine s_iload_n kx_206_17 rfl ?_
        refine s_aload_n kx_206_18 rfl ?_
        refine r_getR (k := 63) (f := 23) (k2 := 73) kx_206_19 kp_206_81 (tk_63 hT) kf_12_23 (by decide) (rq_63_23 hI) ?_
        refine s_bipush (v := 8) kx_206_22 (by decide) ?_
        refine s_aload_n kx_206_24 rfl ?_
        refine r_getK (k := 63) (f := 36) kx_206_25 kp_206_121 (tk_63 hT) kf_12_36 (fun _ => rfl) v8e ?_
        refine r_mul kx_206_28 ⟨by omega, by omega⟩ ?_
        refine s_iload_n kx_206_29 rfl ?_
        refine r_add kx_206_30 ⟨by omega, by omega⟩ ?_
        refine r_ald (k := 73) kx_206_31 (tk_73 hT) ⟨by omega, by omega⟩ (rg_73 hI) (fun v11 v11e v11a v11b => ?_)
        refine s_iload_n kx_206_32 rfl ?_
        refine s_icmp_ne (t := 53) kx_206_33 (by decide) (fun hc12 => ?_) (fun hc12 => ?_)
        · refine s_iconst (v := 0) kx_206_53 (by decide) ?_
          refine r_iaddR kx_206_54 (fun v13 v13a v13b => ?_)
          refine s_istore_n kx_206_55 km_206_2 rfl ?_
          refine r_iinc kx_206_56 rfl km_206_3 (by decide) ⟨by omega, by omega⟩ rfl ?_
          refine s_goto (t := 4) kx_206_59 (by decide) ?_
          exact cP.wk (lS1 rfl (lS1 rfl (lS1 rfl (lS1 rfl lS0)))) (ih7 v13 (x3_2 + 1) (by omega) (by omega))
        · refine s_aload_n kx_206_36 rfl ?_
          refine r_getR (k := 63) (f := 22) (k2 := 72) kx_206_37 kp_206_78 (tk_63 hT) kf_12_22 (by decide) (rq_63_22 hI) ?_
          refine s_bipush (v := 8) kx_206_40 (by decide) ?_
          refine s_aload_n kx_206_42 rfl ?_
          refine r_getK (k := 63) (f := 36) kx_206_43 kp_206_121 (tk_63 hT) kf_12_36 (fun _ => rfl) v8e ?_
          refine r_mul kx_206_46 ⟨by omega, by omega⟩ ?_
          refine s_iload_n kx_206_47 rfl ?_
          refine r_add kx_206_48 ⟨by omega, by omega⟩ ?_
          refine r_aldU (k := 72) kx_206_49 (tk_72 hT) ⟨by omega, by omega⟩ (fun v14 v14e => ?_)
          refine s_goto (t := 54) kx_206_50 (by decide) ?_
          refine r_iaddR kx_206_54 (fun v15 v15a v15b => ?_)
          refine s_istore_n kx_206_55 km_206_2 rfl ?_
          refine r_iinc kx_206_56 rfl km_206_3 (by decide) ⟨by omega, by omega⟩ rfl ?_
          refine s_goto (t := 4) kx_206_59 (by decide) ?_
          exact cP.wk (lS1 rfl (lS1 rfl (lS1 rfl (lS1 rfl lS0)))) (ih7 v15 (x3_2 + 1) (by omega) (by omega))
  exact cP.wk (lS1 rfl (lS1 rfl (lS1 rfl (lS1 rfl lS0)))) (key3 _ 0 0 (by omega) (Nat.lt_succ_self _))
theorem kx_207_0 : x_code k_P 207 0 = some (.aload_n 0, 1) := by decide +kernel
theorem kx_207_1 : x_code k_P 207 1 = some (.aload_n 0, 1) := by decide +kernel
theorem kx_207_2 : x_code k_P 207 2 = some (.getfield 69, 3) := by decide +kernel
theorem kp_207_69 : x_pool k_P 207 69 = (1, 12, 19) := by decide +kernel
theorem kx_207_5 : x_code k_P 207 5 = some (.aload_n 0, 1) := by decide +kernel
theorem kx_207_6 : x_code k_P 207 6 = some (.getfield 121, 3) := by decide +kernel
theorem kp_207_121 : x_pool k_P 207 121 = (1, 12, 36) := by decide +kernel
theorem kx_207_9 : x_code k_P 207 9 = some (.iaload, 1) := by decide +kernel
theorem kx_207_10 : x_code k_P 207 10 = some (.bipush 8, 2) := by decide +kernel
theorem kx_207_12 : x_code k_P 207 12 = some (.if_icmp .ne 7, 3) := by decide +kernel
theorem kx_207_19 : x_code k_P 207 19 = some (.iconst 0, 1) := by decide +kernel
theorem kx_207_20 : x_code k_P 207 20 = some (.invokevirtual 386, 3) := by decide +kernel
theorem kp_207_386 : x_pool k_P 207 386 = (2, 199, 1) := by decide +kernel
theorem kx_207_23 : x_code k_P 207 23 = some (.ifCond .ne 4, 3) := by decide +kernel
theorem kx_207_27 : x_code k_P 207 27 = some (.bipush 8, 2) := by decide +kernel
theorem kx_207_29 : x_code k_P 207 29 = some (.aload_n 0, 1) := by decide +kernel
theorem kx_207_30 : x_code k_P 207 30 = some (.getfield 121, 3) := by decide +kernel
theorem kx_207_33 : x_code k_P 207 33 = some (.imul, 1) := by decide +kernel
theorem kx_207_34 : x_code k_P 207 34 = some (.aload_n 0, 1) := by decide +kernel
theorem kx_207_35 : x_code k_P 207 35 = some (.getfield 69, 3) := by decide +kernel
theorem kx_207_38 : x_code k_P 207 38 = some (.aload_n 0, 1) := by decide +kernel
theorem kx_207_39 : x_code k_P 207 39 = some (.getfield 121, 3) := by decide +kernel
theorem kx_207_42 : x_code k_P 207 42 = some (.iaload, 1) := by decide +kernel
theorem kx_207_43 : x_code k_P 207 43 = some (.iadd, 1) := by decide +kernel
theorem kx_207_44 : x_code k_P 207 44 = some (.istore_n 1, 1) := by decide +kernel
theorem km_207_1 : 1 < x_maxL k_P 207 := by decide +kernel
theorem kx_207_45 : x_code k_P 207 45 = some (.aload_n 0, 1) := by decide +kernel
theorem kx_207_46 : x_code k_P 207 46 = some (.getfield 115, 3) := by decide +kernel
theorem kp_207_115 : x_pool k_P 207 115 = (1, 12, 34) := by decide +kernel
theorem kx_207_49 : x_code k_P 207 49 = some (.iload_n 1, 1) := by decide +kernel
theorem kx_207_50 : x_code k_P 207 50 = some (.aload_n 0, 1) := by decide +kernel
theorem kx_207_51 : x_code k_P 207 51 = some (.invokevirtual 390, 3) := by decide +kernel
theorem kp_207_390 : x_pool k_P 207 390 = (2, 201, 0) := by decide +kernel
theorem kx_207_54 : x_code k_P 207 54 = some (.lastore, 1) := by decide +kernel
theorem kx_207_55 : x_code k_P 207 55 = some (.aload_n 0, 1) := by decide +kernel
theorem kx_207_56 : x_code k_P 207 56 = some (.ldc2_w 301, 3) := by decide +kernel
theorem kp_207_301 : x_pool k_P 207 301 = (8, 0, 126943973305959) := by decide +kernel
theorem kx_207_59 : x_code k_P 207 59 = some (.invokevirtual 394, 3) := by decide +kernel
theorem kp_207_394 : x_pool k_P 207 394 = (2, 200, 1) := by decide +kernel
theorem kx_207_62 : x_code k_P 207 62 = some (.aload_n 0, 1) := by decide +kernel
theorem kx_207_63 : x_code k_P 207 63 = some (.getfield 72, 3) := by decide +kernel
theorem kp_207_72 : x_pool k_P 207 72 = (1, 12, 20) := by decide +kernel
theorem kx_207_66 : x_code k_P 207 66 = some (.iload_n 1, 1) := by decide +kernel
theorem kx_207_67 : x_code k_P 207 67 = some (.aload_n 0, 1) := by decide +kernel
theorem kx_207_68 : x_code k_P 207 68 = some (.iconst 1, 1) := by decide +kernel
theorem kx_207_69 : x_code k_P 207 69 = some (.bipush 99, 2) := by decide +kernel
theorem kx_207_71 : x_code k_P 207 71 = some (.invokevirtual 398, 3) := by decide +kernel
theorem kp_207_398 : x_pool k_P 207 398 = (2, 188, 2) := by decide +kernel
theorem kx_207_74 : x_code k_P 207 74 = some (.iastore, 1) := by decide +kernel
theorem kx_207_75 : x_code k_P 207 75 = some (.aload_n 0, 1) := by decide +kernel
theorem kx_207_76 : x_code k_P 207 76 = some (.ldc2_w 303, 3) := by decide +kernel
theorem kp_207_303 : x_pool k_P 207 303 = (8, 0, 426952976754) := by decide +kernel
theorem kx_207_79 : x_code k_P 207 79 = some (.invokevirtual 394, 3) := by decide +kernel
theorem kx_207_82 : x_code k_P 207 82 = some (.aload_n 0, 1) := by decide +kernel
theorem kx_207_83 : x_code k_P 207 83 = some (.getfield 75, 3) := by decide +kernel
theorem kp_207_75 : x_pool k_P 207 75 = (1, 12, 21) := by decide +kernel
theorem kx_207_86 : x_code k_P 207 86 = some (.iload_n 1, 1) := by decide +kernel
theorem kx_207_87 : x_code k_P 207 87 = some (.aload_n 0, 1) := by decide +kernel
theorem kx_207_88 : x_code k_P 207 88 = some (.iconst 1, 1) := by decide +kernel
theorem kx_207_89 : x_code k_P 207 89 = some (.bipush 99, 2) := by decide +kernel
theorem kx_207_91 : x_code k_P 207 91 = some (.invokevirtual 398, 3) := by decide +kernel
theorem kx_207_94 : x_code k_P 207 94 = some (.iastore, 1) := by decide +kernel
theorem kx_207_95 : x_code k_P 207 95 = some (.aload_n 0, 1) := by decide +kernel
theorem kx_207_96 : x_code k_P 207 96 = some (.ldc2_w 305, 3) := by decide +kernel
theorem kp_207_305 : x_pool k_P 207 305 = (8, 0, 2003395685) := by decide +kernel
theorem kx_207_99 : x_code k_P 207 99 = some (.invokevirtual 394, 3) := by decide +kernel
theorem kx_207_102 : x_code k_P 207 102 = some (.aload_n 0, 1) := by decide +kernel
theorem kx_207_103 : x_code k_P 207 103 = some (.getfield 78, 3) := by decide +kernel
theorem kp_207_78 : x_pool k_P 207 78 = (1, 12, 22) := by decide +kernel
theorem kx_207_106 : x_code k_P 207 106 = some (.iload_n 1, 1) := by decide +kernel
theorem kx_207_107 : x_code k_P 207 107 = some (.aload_n 0, 1) := by decide +kernel
theorem kx_207_108 : x_code k_P 207 108 = some (.iconst 1, 1) := by decide +kernel
theorem kx_207_109 : x_code k_P 207 109 = some (.bipush 9, 2) := by decide +kernel
theorem kx_207_111 : x_code k_P 207 111 = some (.invokevirtual 398, 3) := by decide +kernel
theorem kx_207_114 : x_code k_P 207 114 = some (.iastore, 1) := by decide +kernel
theorem kx_207_115 : x_code k_P 207 115 = some (.aload_n 0, 1) := by decide +kernel
theorem kx_207_116 : x_code k_P 207 116 = some (.ldc2_w 307, 3) := by decide +kernel
theorem kp_207_307 : x_pool k_P 207 307 = (8, 0, 24948) := by decide +kernel
theorem kx_207_119 : x_code k_P 207 119 = some (.invokevirtual 394, 3) := by decide +kernel
theorem kx_207_122 : x_code k_P 207 122 = some (.aload_n 0, 1) := by decide +kernel
theorem kx_207_123 : x_code k_P 207 123 = some (.iconst 0, 1) := by decide +kernel
theorem kx_207_124 : x_code k_P 207 124 = some (.invokevirtual 383, 3) := by decide +kernel
theorem kp_207_383 : x_pool k_P 207 383 = (2, 202, 1) := by decide +kernel
theorem kx_207_127 : x_code k_P 207 127 = some (.istore_n 2, 1) := by decide +kernel
theorem km_207_2 : 2 < x_maxL k_P 207 := by decide +kernel
theorem kx_207_128 : x_code k_P 207 128 = some (.aload_n 0, 1) := by decide +kernel
theorem kx_207_129 : x_code k_P 207 129 = some (.getfield 39, 3) := by decide +kernel
theorem kp_207_39 : x_pool k_P 207 39 = (1, 12, 9) := by decide +kernel
theorem kx_207_132 : x_code k_P 207 132 = some (.ifCond .ne 64, 3) := by decide +kernel
theorem kx_207_196 : x_code k_P 207 196 = some (.aload_n 0, 1) := by decide +kernel
theorem kx_207_197 : x_code k_P 207 197 = some (.getfield 39, 3) := by decide +kernel
theorem kx_207_200 : x_code k_P 207 200 = some (.ifCond .le 4, 3) := by decide +kernel
theorem kx_207_203 : x_code k_P 207 203 = some (.return_, 1) := by decide +kernel
theorem kq_207 : x_retk k_P 207 = 0 := by decide +kernel
theorem kx_207_135 : x_code k_P 207 135 = some (.aload_n 0, 1) := by decide +kernel
theorem kx_207_136 : x_code k_P 207 136 = some (.getfield 60, 3) := by decide +kernel
theorem kp_207_60 : x_pool k_P 207 60 = (1, 12, 16) := by decide +kernel
theorem kx_207_139 : x_code k_P 207 139 = some (.bipush 8, 2) := by decide +kernel
theorem kx_207_141 : x_code k_P 207 141 = some (.aload_n 0, 1) := by decide +kernel
theorem kx_207_142 : x_code k_P 207 142 = some (.getfield 121, 3) := by decide +kernel
theorem kx_207_145 : x_code k_P 207 145 = some (.imul, 1) := by decide +kernel
theorem kx_207_146 : x_code k_P 207 146 = some (.iload_n 2, 1) := by decide +kernel
theorem kx_207_147 : x_code k_P 207 147 = some (.iadd, 1) := by decide +kernel
theorem kx_207_148 : x_code k_P 207 148 = some (.iaload, 1) := by decide +kernel
theorem kx_207_149 : x_code k_P 207 149 = some (.aload_n 0, 1) := by decide +kernel
theorem kx_207_150 : x_code k_P 207 150 = some (.getfield 78, 3) := by decide +kernel
theorem kx_207_153 : x_code k_P 207 153 = some (.iload_n 1, 1) := by decide +kernel
theorem kx_207_154 : x_code k_P 207 154 = some (.iaload, 1) := by decide +kernel
theorem kx_207_155 : x_code k_P 207 155 = some (.if_icmp .lt 32, 3) := by decide +kernel
theorem kx_207_187 : x_code k_P 207 187 = some (.aload_n 0, 1) := by decide +kernel
theorem kx_207_188 : x_code k_P 207 188 = some (.iconst 3, 1) := by decide +kernel
theorem kx_207_189 : x_code k_P 207 189 = some (.aload_n 0, 1) := by decide +kernel
theorem kx_207_190 : x_code k_P 207 190 = some (.getfield 23, 3) := by decide +kernel
theorem kp_207_23 : x_pool k_P 207 23 = (1, 12, 4) := by decide +kernel
theorem kx_207_193 : x_code k_P 207 193 = some (.invokevirtual 263, 3) := by decide +kernel
theorem kp_207_263 : x_pool k_P 207 263 = (2, 176, 2) := by decide +kernel
theorem kx_207_204 : x_code k_P 207 204 = some (.aload_n 0, 1) := by decide +kernel
theorem kx_207_205 : x_code k_P 207 205 = some (.invokevirtual 286, 3) := by decide +kernel
theorem kp_207_286 : x_pool k_P 207 286 = (2, 180, 0) := by decide +kernel
theorem kx_207_208 : x_code k_P 207 208 = some (.aload_n 0, 1) := by decide +kernel
theorem kx_207_209 : x_code k_P 207 209 = some (.getfield 81, 3) := by decide +kernel
theorem kp_207_81 : x_pool k_P 207 81 = (1, 12, 23) := by decide +kernel
theorem kx_207_212 : x_code k_P 207 212 = some (.iload_n 1, 1) := by decide +kernel
theorem kx_207_213 : x_code k_P 207 213 = some (.iload_n 2, 1) := by decide +kernel
theorem kx_207_214 : x_code k_P 207 214 = some (.iastore, 1) := by decide +kernel
theorem kx_207_215 : x_code k_P 207 215 = some (.aload_n 0, 1) := by decide +kernel
theorem kx_207_216 : x_code k_P 207 216 = some (.getfield 84, 3) := by decide +kernel
theorem kp_207_84 : x_pool k_P 207 84 = (1, 12, 24) := by decide +kernel
theorem kx_207_219 : x_code k_P 207 219 = some (.iload_n 1, 1) := by decide +kernel
theorem kx_207_220 : x_code k_P 207 220 = some (.iconst (-1), 1) := by decide +kernel
theorem kx_207_221 : x_code k_P 207 221 = some (.iastore, 1) := by decide +kernel
theorem kx_207_222 : x_code k_P 207 222 = some (.aload_n 0, 1) := by decide +kernel
theorem kx_207_223 : x_code k_P 207 223 = some (.getfield 69, 3) := by decide +kernel
theorem kx_207_226 : x_code k_P 207 226 = some (.aload_n 0, 1) := by decide +kernel
theorem kx_207_227 : x_code k_P 207 227 = some (.getfield 121, 3) := by decide +kernel
theorem kx_207_230 : x_code k_P 207 230 = some (.dup2, 1) := by decide +kernel
theorem kx_207_231 : x_code k_P 207 231 = some (.iaload, 1) := by decide +kernel
theorem kx_207_232 : x_code k_P 207 232 = some (.iconst 1, 1) := by decide +kernel
theorem kx_207_233 : x_code k_P 207 233 = some (.iadd, 1) := by decide +kernel
theorem kx_207_234 : x_code k_P 207 234 = some (.iastore, 1) := by decide +kernel
theorem kx_207_235 : x_code k_P 207 235 = some (.return_, 1) := by decide +kernel
theorem kx_207_158 : x_code k_P 207 158 = some (.aload_n 0, 1) := by decide +kernel
theorem kx_207_159 : x_code k_P 207 159 = some (.iload_n 2, 1) := by decide +kernel
theorem kx_207_160 : x_code k_P 207 160 = some (.invokevirtual 404, 3) := by decide +kernel
theorem kp_207_404 : x_pool k_P 207 404 = (2, 206, 1) := by decide +kernel
theorem ki_206 : x_mci k_P 206 = 12 := by decide +kernel
theorem kcl_206 : x_maxL k_P 206 ≤ 60 ∧ 2 ≤ x_maxL k_P 206 := by decide +kernel
theorem kx_207_163 : x_code k_P 207 163 = some (.aload_n 0, 1) := by decide +kernel
theorem kx_207_164 : x_code k_P 207 164 = some (.getfield 78, 3) := by decide +kernel
theorem kx_207_167 : x_code k_P 207 167 = some (.iload_n 1, 1) := by decide +kernel
theorem kx_207_168 : x_code k_P 207 168 = some (.iaload, 1) := by decide +kernel
theorem kx_207_169 : x_code k_P 207 169 = some (.iadd, 1) := by decide +kernel
theorem kx_207_170 : x_code k_P 207 170 = some (.aload_n 0, 1) := by decide +kernel
theorem kx_207_171 : x_code k_P 207 171 = some (.getfield 63, 3) := by decide +kernel
theorem kp_207_63 : x_pool k_P 207 63 = (1, 12, 17) := by decide +kernel
theorem kx_207_174 : x_code k_P 207 174 = some (.bipush 8, 2) := by decide +kernel
theorem kx_207_176 : x_code k_P 207 176 = some (.aload_n 0, 1) := by decide +kernel
theorem kx_207_177 : x_code k_P 207 177 = some (.getfield 121, 3) := by decide +kernel
theorem kx_207_180 : x_code k_P 207 180 = some (.imul, 1) := by decide +kernel
theorem kx_207_181 : x_code k_P 207 181 = some (.iload_n 2, 1) := by decide +kernel
theorem kx_207_182 : x_code k_P 207 182 = some (.iadd, 1) := by decide +kernel
theorem kx_207_183 : x_code k_P 207 183 = some (.iaload, 1) := by decide +kernel
theorem kx_207_184 : x_code k_P 207 184 = some (.if_icmp .le 12, 3) := by decide +kernel
theorem kx_207_26 : x_code k_P 207 26 = some (.return_, 1) := by decide +kernel
theorem kx_207_15 : x_code k_P 207 15 = some (.iconst 1, 1) := by decide +kernel
theorem kx_207_16 : x_code k_P 207 16 = some (.goto 4, 3) := by decide +kernel
def fS_207_m : List (Nat × Nat) := [(63, 10), (63, 13), (63, 3), (63, 4), (63, 5), (63, 6), (63, 7), (63, 8), (63, 9), (69, 99999), (70, 99999), (71, 99999), (72, 99999), (73, 99999), (74, 99999), (84, 99999)]
theorem m_207 {xs : Nat → Int} {Ln d : Nat} {T : List cK} {M : cM} (hT : TT T) (hI : Rng M) (hX : LXp M) (p0 : M 63 4 + 1 ≤ M 63 5) : cC k_P xs Ln (d + 3) 207 [rf 63] (T, M) (qV T M fS_207_m (fun M1 => LXp M1 ∧ M 63 4 ≤ M1 63 4 ∧ M 63 9 ≤ M1 63 9 ∧ (PRd M M1))) := by
  show cP k_P xs Ln (d + 3) 207 0 [(0, rf 63)] [] (T, M) _
  have hFm : Fr fS_207_m M M := Fr.refl
  have h639 := rg_63_9 hI
  refine s_aload_n kx_207_0 rfl ?_
  refine s_aload_n kx_207_1 rfl ?_
  refine r_getR (k := 63) (f := 19) (k2 := 69) kx_207_2 kp_207_69 (tk_63 hT) kf_12_19 (by decide) (rq_63_19 hI) ?_
  refine s_aload_n kx_207_5 rfl ?_
  refine r_getI (k := 63) (f := 36) kx_207_6 kp_207_121 (tk_63 hT) kf_12_36 (fun _ => rfl) (rg_63_36 hI) (fun v1 v1e v1a v1b => ?_)
  refine r_ald (k := 69) kx_207_9 (tk_69 hT) ⟨by omega, by omega⟩ (rg_69 hI) (fun v2 v2e v2a v2b => ?_)
  refine s_bipush (v := 8) kx_207_10 (by decide) ?_
  refine s_icmp_ne (t := 19) kx_207_12 (by decide) (fun hc3 => ?_) (fun hc3 => ?_)
  · refine s_iconst (v := 0) kx_207_19 (by decide) ?_
    refine s_callV2 (k := 63) (s1 := 2) (s2 := 0) (as := [(0, 0)]) (rest := []) kx_207_20 kp_207_386 (Or.inl rfl) rfl (tk_63 hT) ki_199 kcl_199 rfl rfl (by decide) (m_199 (d := d) (full := 0) hT hI hX (by omega)) (kW (fun v4 M5 hI5 fr5 v4p => ?_))
    have hFm5 := hFm.call fr5 rfl
    have tr6 := rg_63_9 hI5
    refine s_if_ne (t := 27) kx_207_23 (by decide) (fun hc7 => ?_) (fun hc7 => ?_)
    · refine s_bipush (v := 8) kx_207_27 (by decide) ?_
      refine s_aload_n kx_207_29 rfl ?_
      refine r_getK (k := 63) (f := 36) kx_207_30 kp_207_121 (tk_63 hT) kf_12_36 (fun _ => rfl) ((fr5 63 36 rfl).trans v1e) ?_
      refine r_mul kx_207_33 ⟨by omega, by omega⟩ ?_
      refine s_aload_n kx_207_34 rfl ?_
      refine r_getR (k := 63) (f := 19) (k2 := 69) kx_207_35 kp_207_69 (tk_63 hT) kf_12_19 (by decide) (rq_63_19 hI5) ?_
      refine s_aload_n kx_207_38 rfl ?_
      refine r_getK (k := 63) (f := 36) kx_207_39 kp_207_121 (tk_63 hT) kf_12_36 (fun _ => rfl) ((fr5 63 36 rfl).trans v1e) ?_
      refine r_aldK (k := 69) kx_207_42 (tk_69 hT) ⟨by omega, by omega⟩ ((fr5 69 _ rfl).trans v2e) ?_
      refine r_add kx_207_43 ⟨by omega, by omega⟩ ?_
      refine s_istore_n kx_207_44 km_207_1 rfl ?_
      refine s_aload_n kx_207_45 rfl ?_
      refine r_getR (k := 63) (f := 34) (k2 := 84) kx_207_46 kp_207_115 (tk_63 hT) kf_12_34 (by decide) (rq_63_34 hI5) ?_
      refine s_iload_n kx_207_49 rfl ?_
      refine s_aload_n kx_207_50 rfl ?_
      refine s_callV2 (k := 63) (s1 := 1) (s2 := 2) (as := []) (rest := [(0, ((8 * v1) + v2)), rf 84]) kx_207_51 kp_207_390 (Or.inl rfl) rfl (tk_63 hT) ki_201 kcl_201 rfl rfl (by decide) (m_201 (d := d) hT hI5 v4p.1) (kW (fun v8 M9 hI9 fr9 v8p => ?_))
      have hFm9 := hFm5.call fr9 rfl
      have tr10 := rg_63_9 hI9
      refine r_last (k := 84) kx_207_54 (tk_84 hT) ⟨by omega, by omega⟩ hI9 ru_84 (fun M11 hI11 u11 => ?_)
      have hFm11 := hFm9.up u11 rfl
      have tr12 := (u11.2 63 3 (by omega))
      have tr13 := (u11.2 63 4 (by omega))
      have tr14 := (u11.2 63 5 (by omega))
      have tr15 := (u11.2 63 9 (by omega))
      refine s_aload_n kx_207_55 rfl ?_
      refine s_ldc2_w kx_207_56 kp_207_301 ?_
      refine s_callV2 (k := 63) (s1 := 3) (s2 := 0) (as := [(1, 126943973305959)]) (rest := []) kx_207_59 kp_207_394 (Or.inl rfl) rfl (tk_63 hT) ki_200 kcl_200 rfl rfl (by decide) (m_200 (d := d) (w := 126943973305959) hT hI11 (LXp.up v8p.1 u11 (Or.inl (by decide)))) (kV (fun M17 hI17 fr17 v16p => ?_))
      have hFm17 := hFm11.call fr17 rfl
      have tr18 := rg_63_9 hI17
      refine s_aload_n kx_207_62 rfl ?_
      refine r_getR (k := 63) (f := 20) (k2 := 70) kx_207_63 kp_207_72 (tk_63 hT) kf_12_20 (by decide) (rq_63_20 hI17) ?_
      refine s_iload_n kx_207_66 rfl ?_
      refine s_aload_n kx_207_67 rfl ?_
      refine s_iconst (v := 1) kx_207_68 (by decide) ?_
      refine s_bipush (v := 99) kx_207_69 (by decide) ?_
      refine s_callV2 (k := 63) (s1 := 3) (s2 := 2) (as := [(0, 99), (0, 1)]) (rest := [(0, ((8 * v1) + v2)), rf 70]) kx_207_71 kp_207_398 (Or.inl rfl) rfl (tk_63 hT) ki_188 kcl_188 rfl rfl (by decide) (m_188 (d := d) (low := 1) (high := 99) hT hI17 v16p.1) (kW (fun v19 M20 hI20 fr20 v19p => ?_))
      have hFm20 := hFm17.call fr20 rfl
      have tr21 := rg_63_9 hI20
      refine r_ast (k := 70) kx_207_74 (tk_70 hT) ⟨by omega, by omega⟩ hI20 ru_70 (fun M22 hI22 u22 => ?_)
      have hFm22 := hFm20.up u22 rfl
      have tr23 := (u22.2 63 3 (by omega))
      have tr24 := (u22.2 63 4 (by omega))
      have tr25 := (u22.2 63 5 (by omega))
      have tr26 := (u22.2 63 9 (by omega))
      refine s_aload_n kx_207_75 rfl ?_
      refine s_ldc2_w kx_207_76 kp_207_303 ?_
      refine s_callV2 (k := 63) (s1 := 3) (s2 := 0) (as := [(1, 426952976754)]) (rest := []) kx_207_79 kp_207_394 (Or.inl rfl) rfl (tk_63 hT) ki_200 kcl_200 rfl rfl (by decide) (m_200 (d := d) (w := 426952976754) hT hI22 (LXp.up v19p.1 u22 (Or.inl (by decide)))) (kV (fun M28 hI28 fr28 v27p => ?_))
      have hFm28 := hFm22.call fr28 rfl
      have tr29 := rg_63_9 hI28
      refine s_aload_n kx_207_82 rfl ?_
      refine r_getR (k := 63) (f := 21) (k2 := 71) kx_207_83 kp_207_75 (tk_63 hT) kf_12_21 (by decide) (rq_63_21 hI28) ?_
      refine s_iload_n kx_207_86 rfl ?_
      refine s_aload_n kx_207_87 rfl ?_
      refine s_iconst (v := 1) kx_207_88 (by decide) ?_
      refine s_bipush (v := 99) kx_207_89 (by decide) ?_
      refine s_callV2 (k := 63) (s1 := 3) (s2 := 2) (as := [(0, 99), (0, 1)]) (rest := [(0, ((8 * v1) + v2)), rf 71]) kx_207_91 kp_207_398 (Or.inl rfl) rfl (tk_63 hT) ki_188 kcl_188 rfl rfl (by decide) (m_188 (d := d) (low := 1) (high := 99) hT hI28 v27p.1) (kW (fun v30 M31 hI31 fr31 v30p => ?_))
      have hFm31 := hFm28.call fr31 rfl
      have tr32 := rg_63_9 hI31
      refine r_ast (k := 71) kx_207_94 (tk_71 hT) ⟨by omega, by omega⟩ hI31 ru_71 (fun M33 hI33 u33 => ?_)
      have hFm33 := hFm31.up u33 rfl
      have tr34 := (u33.2 63 3 (by omega))
      have tr35 := (u33.2 63 4 (by omega))
      have tr36 := (u33.2 63 5 (by omega))
      have tr37 := (u33.2 63 9 (by omega))
      refine s_aload_n kx_207_95 rfl ?_
      refine s_ldc2_w kx_207_96 kp_207_305 ?_
      refine s_callV2 (k := 63) (s1 := 3) (s2 := 0) (as := [(1, 2003395685)]) (rest := []) kx_207_99 kp_207_394 (Or.inl rfl) rfl (tk_63 hT) ki_200 kcl_200 rfl rfl (by decide) (m_200 (d := d) (w := 2003395685) hT hI33 (LXp.up v30p.1 u33 (Or.inl (by decide)))) (kV (fun M39 hI39 fr39 v38p => ?_))
      have hFm39 := hFm33.call fr39 rfl
      have tr40 := rg_63_9 hI39
      refine s_aload_n kx_207_102 rfl ?_
      refine r_getR (k := 63) (f := 22) (k2 := 72) kx_207_103 kp_207_78 (tk_63 hT) kf_12_22 (by decide) (rq_63_22 hI39) ?_
      refine s_iload_n kx_207_106 rfl ?_
      refine s_aload_n kx_207_107 rfl ?_
      refine s_iconst (v := 1) kx_207_108 (by decide) ?_
      refine s_bipush (v := 9) kx_207_109 (by decide) ?_
      refine s_callV2 (k := 63) (s1 := 3) (s2 := 2) (as := [(0, 9), (0, 1)]) (rest := [(0, ((8 * v1) + v2)), rf 72]) kx_207_111 kp_207_398 (Or.inl rfl) rfl (tk_63 hT) ki_188 kcl_188 rfl rfl (by decide) (m_188 (d := d) (low := 1) (high := 9) hT hI39 v38p.1) (kW (fun v41 M42 hI42 fr42 v41p => ?_))
      have hFm42 := hFm39.call fr42 rfl
      have tr43 := rg_63_9 hI42
      refine r_ast (k := 72) kx_207_114 (tk_72 hT) ⟨by omega, by omega⟩ hI42 ru_72 (fun M44 hI44 u44 => ?_)
      have hFm44 := hFm42.up u44 rfl
      have tr45 := (u44.2 63 3 (by omega))
      have tr46 := (u44.2 63 4 (by omega))
      have tr47 := (u44.2 63 5 (by omega))
      have tr48 := (u44.2 63 9 (by omega))
      refine s_aload_n kx_207_115 rfl ?_
      refine s_ldc2_w kx_207_116 kp_207_307 ?_
      refine s_callV2 (k := 63) (s1 := 3) (s2 := 0) (as := [(1, 24948)]) (rest := []) kx_207_119 kp_207_394 (Or.inl rfl) rfl (tk_63 hT) ki_200 kcl_200 rfl rfl (by decide) (m_200 (d := d) (w := 24948) hT hI44 (LXp.up v41p.1 u44 (Or.inl (by decide)))) (kV (fun M50 hI50 fr50 v49p => ?_))
      have hFm50 := hFm44.call fr50 rfl
      have tr51 := rg_63_9 hI50
      refine s_aload_n kx_207_122 rfl ?_
      refine s_iconst (v := 0) kx_207_123 (by decide) ?_
      refine s_callV2 (k := 63) (s1 := 2) (s2 := 0) (as := [(0, 0)]) (rest := []) kx_207_124 kp_207_383 (Or.inl rfl) rfl (tk_63 hT) ki_202 kcl_202 rfl rfl (by decide) (m_202 (d := d) (kind := 0) hT hI50) (kW (fun v52 M53 hI53 fr53 v52p => ?_))
      have hFm53 := hFm50.call fr53 rfl
      have tr54 := (fr53 63 3 rfl)
      have tr55 := (fr53 63 4 rfl)
      have tr56 := (fr53 63 5 rfl)
      have tr57 := rg_63_9 hI53
      refine s_istore_n kx_207_127 km_207_2 rfl ?_
      refine s_aload_n kx_207_128 rfl ?_
      refine r_getI (k := 63) (f := 9) kx_207_129 kp_207_39 (tk_63 hT) kf_12_9 (fun _ => rfl) (rg_63_9 hI53) (fun v58 v58e v58a v58b => ?_)
      refine s_if_ne (t := 196) kx_207_132 (by decide) (fun hc59 => ?_) (fun hc59 => ?_)
      · refine s_aload_n kx_207_196 rfl ?_
        refine r_getK (k := 63) (f := 9) kx_207_197 kp_207_39 (tk_63 hT) kf_12_9 (fun _ => rfl) v58e ?_
        refine s_if_le (t := 204) kx_207_200 (by decide) (fun hc60 => absurd hc60 (by omega)) (fun hc60 => ?_)
        have hk61 : M53 63 9 = v58 := v58e
        exact s_vret kx_207_203 kq_207 ⟨_, rfl, rfl, hI53, hFm53, ⟨(LXp.fr v49p.1 fr53 rfl), (by omega), (by omega), (by unfold PRd; omega)⟩⟩
      · refine s_aload_n kx_207_135 rfl ?_
        refine r_getR (k := 63) (f := 16) (k2 := 66) kx_207_136 kp_207_60 (tk_63 hT) kf_12_16 (by decide) (rq_63_16 hI53) ?_
        refine s_bipush (v := 8) kx_207_139 (by decide) ?_
        refine s_aload_n kx_207_141 rfl ?_
        refine r_getK (k := 63) (f := 36) kx_207_142 kp_207_121 (tk_63 hT) kf_12_36 (fun _ => rfl) ((fr53 63 36 rfl).trans ((fr50 63 36 rfl).trans ((u44.2 63 36 (by omega)).trans ((fr42 63 36 rfl).trans ((fr39 63 36 rfl).trans ((u33.2 63 36 (by omega)).trans ((fr31 63 36 rfl).trans ((fr28 63 36 rfl).trans ((u22.2 63 36 (by omega)).trans ((fr20 63 36 rfl).trans ((fr17 63 36 rfl).trans ((u11.2 63 36 (by omega)).trans ((fr9 63 36 rfl).trans ((fr5 63 36 rfl).trans v1e)))))))))))))) ?_
        refine r_mul kx_207_145 ⟨by omega, by omega⟩ ?_
        refine s_iload_n kx_207_146 rfl ?_
        refine r_add kx_207_147 ⟨by omega, by omega⟩ ?_
        refine r_aldU (k := 66) kx_207_148 (tk_66 hT) ⟨by omega, by omega⟩ (fun v62 v62e => ?_)
        refine s_aload_n kx_207_149 rfl ?_
        refine r_getR (k := 63) (f := 22) (k2 := 72) kx_207_150 kp_207_78 (tk_63 hT) kf_12_22 (by decide) (rq_63_22 hI53) ?_
        refine s_iload_n kx_207_153 rfl ?_
        refine r_aldK (k := 72) kx_207_154 (tk_72 hT) ⟨by omega, by omega⟩ ((fr53 72 _ rfl).trans ((fr50 72 _ rfl).trans u44.1)) ?_
        refine s_icmp_lt (t := 187) kx_207_155 (by decide) (fun hc63 => ?_) (fun hc63 => ?_)
        · refine s_aload_n kx_207_187 rfl ?_
          refine s_iconst (v := 3) kx_207_188 (by decide) ?_
          refine s_aload_n kx_207_189 rfl ?_
          refine r_getI (k := 63) (f := 4) kx_207_190 kp_207_23 (tk_63 hT) kf_12_4 (fun _ => rfl) (rg_63_4 hI53) (fun v64 v64e v64a v64b => ?_)
          refine s_callV2 (k := 63) (s1 := 3) (s2 := 0) (as := [(0, v64), (0, 3)]) (rest := []) kx_207_193 kp_207_263 (Or.inl rfl) rfl (tk_63 hT) ki_176 kcl_176 rfl rfl (by decide) (m_176 (d := d + 2) (kind := 3) (place := v64) hT hI53 (by omega)) (kV (fun M66 hI66 fr66 v65p => ?_))
          have hFm66 := hFm53.call fr66 rfl
          have tr67 := (fr66 63 3 rfl)
          have tr68 := (fr66 63 4 rfl)
          have tr69 := (fr66 63 5 rfl)
          have tr70 := rg_63_9 hI66
          refine s_aload_n kx_207_196 rfl ?_
          refine r_getI (k := 63) (f := 9) kx_207_197 kp_207_39 (tk_63 hT) kf_12_9 (fun _ => rfl) (rg_63_9 hI66) (fun v71 v71e v71a v71b => ?_)
          refine s_if_le (t := 204) kx_207_200 (by decide) (fun hc72 => ?_) (fun hc72 => ?_)
          · refine s_aload_n kx_207_204 rfl ?_
            have hl73 := (show LXp M66 from (LXp.fr (LXp.fr v49p.1 fr53 rfl) fr66 rfl)).1
            refine s_callV2 (k := 63) (s1 := 1) (s2 := 0) (as := []) (rest := []) kx_207_205 kp_207_286 (Or.inl rfl) rfl (tk_63 hT) ki_180 kcl_180 rfl rfl (by decide) (m_180 (d := d + 1) hT hI66) (kV (fun M75 hI75 fr75 v74p => ?_))
            have hFm75 := hFm66.call fr75 rfl
            have tr76 := (fr75 63 9 rfl)
            have tr77 := rg_63_9 hI75
            refine s_aload_n kx_207_208 rfl ?_
            refine r_getR (k := 63) (f := 23) (k2 := 73) kx_207_209 kp_207_81 (tk_63 hT) kf_12_23 (by decide) (rq_63_23 hI75) ?_
            refine s_iload_n kx_207_212 rfl ?_
            refine s_iload_n kx_207_213 rfl ?_
            refine r_ast (k := 73) kx_207_214 (tk_73 hT) ⟨by omega, by omega⟩ hI75 (ru_73 (by omega) (by omega)) (fun M78 hI78 u78 => ?_)
            have hFm78 := hFm75.up u78 rfl
            have tr79 := (u78.2 63 3 (by omega))
            have tr80 := (u78.2 63 4 (by omega))
            have tr81 := (u78.2 63 5 (by omega))
            have tr82 := (u78.2 63 9 (by omega))
            refine s_aload_n kx_207_215 rfl ?_
            refine r_getR (k := 63) (f := 24) (k2 := 74) kx_207_216 kp_207_84 (tk_63 hT) kf_12_24 (by decide) (rq_63_24 hI78) ?_
            refine s_iload_n kx_207_219 rfl ?_
            refine s_iconst (v := (-1)) kx_207_220 (by decide) ?_
            refine r_ast (k := 74) kx_207_221 (tk_74 hT) ⟨by omega, by omega⟩ hI78 (ru_74 (by omega) (by omega)) (fun M83 hI83 u83 => ?_)
            have hFm83 := hFm78.up u83 rfl
            have tr84 := (u83.2 63 3 (by omega))
            have tr85 := (u83.2 63 4 (by omega))
            have tr86 := (u83.2 63 5 (by omega))
            have tr87 := (u83.2 63 9 (by omega))
            refine s_aload_n kx_207_222 rfl ?_
            refine r_getR (k := 63) (f := 19) (k2 := 69) kx_207_223 kp_207_69 (tk_63 hT) kf_12_19 (by decide) (rq_63_19 hI83) ?_
            refine s_aload_n kx_207_226 rfl ?_
            refine r_getK (k := 63) (f := 36) kx_207_227 kp_207_121 (tk_63 hT) kf_12_36 (fun _ => rfl) ((u83.2 63 36 (by omega)).trans ((u78.2 63 36 (by omega)).trans ((fr75 63 36 rfl).trans ((fr66 63 36 rfl).trans ((fr53 63 36 rfl).trans ((fr50 63 36 rfl).trans ((u44.2 63 36 (by omega)).trans ((fr42 63 36 rfl).trans ((fr39 63 36 rfl).trans ((u33.2 63 36 (by omega)).trans ((fr31 63 36 rfl).trans ((fr28 63 36 rfl).trans ((u22.2 63 36 (by omega)).trans ((fr20 63 36 rfl).trans ((fr17 63 36 rfl).trans ((u11.2 63 36 (by omega)).trans ((fr9 63 36 rfl).trans ((fr5 63 36 rfl).trans v1e)))))))))))))))))) ?_
            refine s_dup2 kx_207_230 rfl rfl ?_
            refine r_aldK (k := 69) kx_207_231 (tk_69 hT) ⟨by omega, by omega⟩ ((u83.2 69 _ (by omega)).trans ((u78.2 69 _ (by omega)).trans ((fr75 69 _ rfl).trans ((fr66 69 _ rfl).trans ((fr53 69 _ rfl).trans ((fr50 69 _ rfl).trans ((u44.2 69 _ (by omega)).trans ((fr42 69 _ rfl).trans ((fr39 69 _ rfl).trans ((u33.2 69 _ (by omega)).trans ((fr31 69 _ rfl).trans ((fr28 69 _ rfl).trans ((u22.2 69 _ (by omega)).trans ((fr20 69 _ rfl).trans ((fr17 69 _ rfl).trans ((u11.2 69 _ (by omega)).trans ((fr9 69 _ rfl).trans ((fr5 69 _ rfl).trans v2e)))))))))))))))))) ?_
            refine s_iconst (v := 1) kx_207_232 (by decide) ?_
            refine r_add kx_207_233 ⟨by omega, by omega⟩ ?_
            refine r_ast (k := 69) kx_207_234 (tk_69 hT) ⟨by omega, by omega⟩ hI83 (ru_69 (by omega) (by omega)) (fun M88 hI88 u88 => ?_)
            have hFm88 := hFm83.up u88 rfl
            have tr89 := (u88.2 63 3 (by omega))
            have tr90 := (u88.2 63 4 (by omega))
            have tr91 := (u88.2 63 5 (by omega))
            have tr92 := (u88.2 63 9 (by omega))
            have hk93 : M88 63 9 = v71 := ((u88.2 63 9 (by omega)).trans ((u83.2 63 9 (by omega)).trans ((u78.2 63 9 (by omega)).trans ((fr75 63 9 rfl).trans v71e))))
            exact s_vret kx_207_235 kq_207 ⟨_, rfl, rfl, hI88, hFm88, ⟨(LXp.up (LXp.up (LXp.up (show LXp M75 from v74p.2) u78 (Or.inl (by decide))) u83 (Or.inl (by decide))) u88 (Or.inl (by decide))), (by omega), (by omega), (by unfold PRd; omega)⟩⟩
          · have hk94 : M66 63 4 = v64 := ((fr66 63 4 rfl).trans v64e)
            have hk95 : M66 63 9 = v71 := v71e
            exact s_vret kx_207_203 kq_207 ⟨_, rfl, rfl, hI66, hFm66, ⟨(LXp.fr (LXp.fr v49p.1 fr53 rfl) fr66 rfl), (by omega), (by omega), (by unfold PRd; omega)⟩⟩
        · refine s_aload_n kx_207_158 rfl ?_
          refine s_iload_n kx_207_159 rfl ?_
          refine s_callV2 (k := 63) (s1 := 2) (s2 := 0) (as := [(0, v52)]) (rest := []) kx_207_160 kp_207_404 (Or.inl rfl) rfl (tk_63 hT) ki_206 kcl_206 rfl rfl (by decide) (m_206 (d := d + 2) (r := v52) hT hI53) (kF (fun v96 v96p => ?_))
          refine s_aload_n kx_207_163 rfl ?_
          refine r_getR (k := 63) (f := 22) (k2 := 72) kx_207_164 kp_207_78 (tk_63 hT) kf_12_22 (by decide) (rq_63_22 hI53) ?_
          refine s_iload_n kx_207_167 rfl ?_
          refine r_aldK (k := 72) kx_207_168 (tk_72 hT) ⟨by omega, by omega⟩ ((fr53 72 _ rfl).trans ((fr50 72 _ rfl).trans u44.1)) ?_
          refine r_iaddR kx_207_169 (fun v97 v97a v97b => ?_)
          refine s_aload_n kx_207_170 rfl ?_
          refine r_getR (k := 63) (f := 17) (k2 := 67) kx_207_171 kp_207_63 (tk_63 hT) kf_12_17 (by decide) (rq_63_17 hI53) ?_
          refine s_bipush (v := 8) kx_207_174 (by decide) ?_
          refine s_aload_n kx_207_176 rfl ?_
          refine r_getK (k := 63) (f := 36) kx_207_177 kp_207_121 (tk_63 hT) kf_12_36 (fun _ => rfl) ((fr53 63 36 rfl).trans ((fr50 63 36 rfl).trans ((u44.2 63 36 (by omega)).trans ((fr42 63 36 rfl).trans ((fr39 63 36 rfl).trans ((u33.2 63 36 (by omega)).trans ((fr31 63 36 rfl).trans ((fr28 63 36 rfl).trans ((u22.2 63 36 (by omega)).trans ((fr20 63 36 rfl).trans ((fr17 63 36 rfl).trans ((u11.2 63 36 (by omega)).trans ((fr9 63 36 rfl).trans ((fr5 63 36 rfl).trans v1e)))))))))))))) ?_
          refine r_mul kx_207_180 ⟨by omega, by omega⟩ ?_
          refine s_iload_n kx_207_181 rfl ?_
          refine r_add kx_207_182 ⟨by omega, by omega⟩ ?_
          refine r_aldU (k := 67) kx_207_183 (tk_67 hT) ⟨by omega, by omega⟩ (fun v98 v98e => ?_)
          refine s_icmp_le (t := 196) kx_207_184 (by decide) (fun hc99 => ?_) (fun hc99 => ?_)
          · refine s_aload_n kx_207_196 rfl ?_
            refine r_getK (k := 63) (f := 9) kx_207_197 kp_207_39 (tk_63 hT) kf_12_9 (fun _ => rfl) v58e ?_
            refine s_if_le (t := 204) kx_207_200 (by decide) (fun hc100 => ?_) (fun hc100 => absurd hc100 (by omega))
            refine s_aload_n kx_207_204 rfl ?_
            have hl101 := (show LXp M53 from (LXp.fr v49p.1 fr53 rfl)).1
            refine s_callV2 (k := 63) (s1 := 1) (s2 := 0) (as := []) (rest := []) kx_207_205 kp_207_286 (Or.inl rfl) rfl (tk_63 hT) ki_180 kcl_180 rfl rfl (by decide) (m_180 (d := d + 1) hT hI53) (kV (fun M103 hI103 fr103 v102p => ?_))
            have hFm103 := hFm53.call fr103 rfl
            have tr104 := (fr103 63 9 rfl)
            have tr105 := rg_63_9 hI103
            refine s_aload_n kx_207_208 rfl ?_
            refine r_getR (k := 63) (f := 23) (k2 := 73) kx_207_209 kp_207_81 (tk_63 hT) kf_12_23 (by decide) (rq_63_23 hI103) ?_
            refine s_iload_n kx_207_212 rfl ?_
            refine s_iload_n kx_207_213 rfl ?_
            refine r_ast (k := 73) kx_207_214 (tk_73 hT) ⟨by omega, by omega⟩ hI103 (ru_73 (by omega) (by omega)) (fun M106 hI106 u106 => ?_)
            have hFm106 := hFm103.up u106 rfl
            have tr107 := (u106.2 63 3 (by omega))
            have tr108 := (u106.2 63 4 (by omega))
            have tr109 := (u106.2 63 5 (by omega))
            have tr110 := (u106.2 63 9 (by omega))
            refine s_aload_n kx_207_215 rfl ?_
            refine r_getR (k := 63) (f := 24) (k2 := 74) kx_207_216 kp_207_84 (tk_63 hT) kf_12_24 (by decide) (rq_63_24 hI106) ?_
            refine s_iload_n kx_207_219 rfl ?_
            refine s_iconst (v := (-1)) kx_207_220 (by decide) ?_
            refine r_ast (k := 74) kx_207_221 (tk_74 hT) ⟨by omega, by omega⟩ hI106 (ru_74 (by omega) (by omega)) (fun M111 hI111 u111 => ?_)
            have hFm111 := hFm106.up u111 rfl
            have tr112 := (u111.2 63 3 (by omega))
            have tr113 := (u111.2 63 4 (by omega))
            have tr114 := (u111.2 63 5 (by omega))
            have tr115 := (u111.2 63 9 (by omega))
            refine s_aload_n kx_207_222 rfl ?_
            refine r_getR (k := 63) (f := 19) (k2 := 69) kx_207_223 kp_207_69 (tk_63 hT) kf_12_19 (by decide) (rq_63_19 hI111) ?_
            refine s_aload_n kx_207_226 rfl ?_
            refine r_getK (k := 63) (f := 36) kx_207_227 kp_207_121 (tk_63 hT) kf_12_36 (fun _ => rfl) ((u111.2 63 36 (by omega)).trans ((u106.2 63 36 (by omega)).trans ((fr103 63 36 rfl).trans ((fr53 63 36 rfl).trans ((fr50 63 36 rfl).trans ((u44.2 63 36 (by omega)).trans ((fr42 63 36 rfl).trans ((fr39 63 36 rfl).trans ((u33.2 63 36 (by omega)).trans ((fr31 63 36 rfl).trans ((fr28 63 36 rfl).trans ((u22.2 63 36 (by omega)).trans ((fr20 63 36 rfl).trans ((fr17 63 36 rfl).trans ((u11.2 63 36 (by omega)).trans ((fr9 63 36 rfl).trans ((fr5 63 36 rfl).trans v1e))))))))))))))))) ?_
            refine s_dup2 kx_207_230 rfl rfl ?_
            refine r_aldK (k := 69) kx_207_231 (tk_69 hT) ⟨by omega, by omega⟩ ((u111.2 69 _ (by omega)).trans ((u106.2 69 _ (by omega)).trans ((fr103 69 _ rfl).trans ((fr53 69 _ rfl).trans ((fr50 69 _ rfl).trans ((u44.2 69 _ (by omega)).trans ((fr42 69 _ rfl).trans ((fr39 69 _ rfl).trans ((u33.2 69 _ (by omega)).trans ((fr31 69 _ rfl).trans ((fr28 69 _ rfl).trans ((u22.2 69 _ (by omega)).trans ((fr20 69 _ rfl).trans ((fr17 69 _ rfl).trans ((u11.2 69 _ (by omega)).trans ((fr9 69 _ rfl).trans ((fr5 69 _ rfl).trans v2e))))))))))))))))) ?_
            refine s_iconst (v := 1) kx_207_232 (by decide) ?_
            refine r_add kx_207_233 ⟨by omega, by omega⟩ ?_
            refine r_ast (k := 69) kx_207_234 (tk_69 hT) ⟨by omega, by omega⟩ hI111 (ru_69 (by omega) (by omega)) (fun M116 hI116 u116 => ?_)
            have hFm116 := hFm111.up u116 rfl
            have tr117 := (u116.2 63 3 (by omega))
            have tr118 := (u116.2 63 4 (by omega))
            have tr119 := (u116.2 63 5 (by omega))
            have tr120 := (u116.2 63 9 (by omega))
            have hk121 : M116 63 9 = v58 := ((u116.2 63 9 (by omega)).trans ((u111.2 63 9 (by omega)).trans ((u106.2 63 9 (by omega)).trans ((fr103 63 9 rfl).trans v58e))))
            exact s_vret kx_207_235 kq_207 ⟨_, rfl, rfl, hI116, hFm116, ⟨(LXp.up (LXp.up (LXp.up (show LXp M103 from v102p.2) u106 (Or.inl (by decide))) u111 (Or.inl (by decide))) u116 (Or.inl (by decide))), (by omega), (by omega), (by unfold PRd; omega)⟩⟩
          · refine s_aload_n kx_207_187 rfl ?_
            refine s_iconst (v := 3) kx_207_188 (by decide) ?_
            refine s_aload_n kx_207_189 rfl ?_
            refine r_getI (k := 63) (f := 4) kx_207_190 kp_207_23 (tk_63 hT) kf_12_4 (fun _ => rfl) (rg_63_4 hI53) (fun v122 v122e v122a v122b => ?_)
            refine s_callV2 (k := 63) (s1 := 3) (s2 := 0) (as := [(0, v122), (0, 3)]) (rest := []) kx_207_193 kp_207_263 (Or.inl rfl) rfl (tk_63 hT) ki_176 kcl_176 rfl rfl (by decide) (m_176 (d := d + 2) (kind := 3) (place := v122) hT hI53 (by omega)) (kV (fun M124 hI124 fr124 v123p => ?_))
            have hFm124 := hFm53.call fr124 rfl
            have tr125 := (fr124 63 3 rfl)
            have tr126 := (fr124 63 4 rfl)
            have tr127 := (fr124 63 5 rfl)
            have tr128 := rg_63_9 hI124
            refine s_aload_n kx_207_196 rfl ?_
            refine r_getI (k := 63) (f := 9) kx_207_197 kp_207_39 (tk_63 hT) kf_12_9 (fun _ => rfl) (rg_63_9 hI124) (fun v129 v129e v129a v129b => ?_)
            refine s_if_le (t := 204) kx_207_200 (by decide) (fun hc130 => ?_) (fun hc130 => ?_)
            · refine s_aload_n kx_207_204 rfl ?_
              have hl131 := (show LXp M124 from (LXp.fr (LXp.fr v49p.1 fr53 rfl) fr124 rfl)).1
              refine s_callV2 (k := 63) (s1 := 1) (s2 := 0) (as := []) (rest := []) kx_207_205 kp_207_286 (Or.inl rfl) rfl (tk_63 hT) ki_180 kcl_180 rfl rfl (by decide) (m_180 (d := d + 1) hT hI124) (kV (fun M133 hI133 fr133 v132p => ?_))
              have hFm133 := hFm124.call fr133 rfl
              have tr134 := (fr133 63 9 rfl)
              have tr135 := rg_63_9 hI133
              refine s_aload_n kx_207_208 rfl ?_
              refine r_getR (k := 63) (f := 23) (k2 := 73) kx_207_209 kp_207_81 (tk_63 hT) kf_12_23 (by decide) (rq_63_23 hI133) ?_
              refine s_iload_n kx_207_212 rfl ?_
              refine s_iload_n kx_207_213 rfl ?_
              refine r_ast (k := 73) kx_207_214 (tk_73 hT) ⟨by omega, by omega⟩ hI133 (ru_73 (by omega) (by omega)) (fun M136 hI136 u136 => ?_)
              have hFm136 := hFm133.up u136 rfl
              have tr137 := (u136.2 63 3 (by omega))
              have tr138 := (u136.2 63 4 (by omega))
              have tr139 := (u136.2 63 5 (by omega))
              have tr140 := (u136.2 63 9 (by omega))
              refine s_aload_n kx_207_215 rfl ?_
              refine r_getR (k := 63) (f := 24) (k2 := 74) kx_207_216 kp_207_84 (tk_63 hT) kf_12_24 (by decide) (rq_63_24 hI136) ?_
              refine s_iload_n kx_207_219 rfl ?_
              refine s_iconst (v := (-1)) kx_207_220 (by decide) ?_
              refine r_ast (k := 74) kx_207_221 (tk_74 hT) ⟨by omega, by omega⟩ hI136 (ru_74 (by omega) (by omega)) (fun M141 hI141 u141 => ?_)
              have hFm141 := hFm136.up u141 rfl
              have tr142 := (u141.2 63 3 (by omega))
              have tr143 := (u141.2 63 4 (by omega))
              have tr144 := (u141.2 63 5 (by omega))
              have tr145 := (u141.2 63 9 (by omega))
              refine s_aload_n kx_207_222 rfl ?_
              refine r_getR (k := 63) (f := 19) (k2 := 69) kx_207_223 kp_207_69 (tk_63 hT) kf_12_19 (by decide) (rq_63_19 hI141) ?_
              refine s_aload_n kx_207_226 rfl ?_
              refine r_getK (k := 63) (f := 36) kx_207_227 kp_207_121 (tk_63 hT) kf_12_36 (fun _ => rfl) ((u141.2 63 36 (by omega)).trans ((u136.2 63 36 (by omega)).trans ((fr133 63 36 rfl).trans ((fr124 63 36 rfl).trans ((fr53 63 36 rfl).trans ((fr50 63 36 rfl).trans ((u44.2 63 36 (by omega)).trans ((fr42 63 36 rfl).trans ((fr39 63 36 rfl).trans ((u33.2 63 36 (by omega)).trans ((fr31 63 36 rfl).trans ((fr28 63 36 rfl).trans ((u22.2 63 36 (by omega)).trans ((fr20 63 36 rfl).trans ((fr17 63 36 rfl).trans ((u11.2 63 36 (by omega)).trans ((fr9 63 36 rfl).trans ((fr5 63 36 rfl).trans v1e)))))))))))))))))) ?_
              refine s_dup2 kx_207_230 rfl rfl ?_
              refine r_aldK (k := 69) kx_207_231 (tk_69 hT) ⟨by omega, by omega⟩ ((u141.2 69 _ (by omega)).trans ((u136.2 69 _ (by omega)).trans ((fr133 69 _ rfl).trans ((fr124 69 _ rfl).trans ((fr53 69 _ rfl).trans ((fr50 69 _ rfl).trans ((u44.2 69 _ (by omega)).trans ((fr42 69 _ rfl).trans ((fr39 69 _ rfl).trans ((u33.2 69 _ (by omega)).trans ((fr31 69 _ rfl).trans ((fr28 69 _ rfl).trans ((u22.2 69 _ (by omega)).trans ((fr20 69 _ rfl).trans ((fr17 69 _ rfl).trans ((u11.2 69 _ (by omega)).trans ((fr9 69 _ rfl).trans ((fr5 69 _ rfl).trans v2e)))))))))))))))))) ?_
              refine s_iconst (v := 1) kx_207_232 (by decide) ?_
              refine r_add kx_207_233 ⟨by omega, by omega⟩ ?_
              refine r_ast (k := 69) kx_207_234 (tk_69 hT) ⟨by omega, by omega⟩ hI141 (ru_69 (by omega) (by omega)) (fun M146 hI146 u146 => ?_)
              have hFm146 := hFm141.up u146 rfl
              have tr147 := (u146.2 63 3 (by omega))
              have tr148 := (u146.2 63 4 (by omega))
              have tr149 := (u146.2 63 5 (by omega))
              have tr150 := (u146.2 63 9 (by omega))
              have hk151 : M146 63 9 = v129 := ((u146.2 63 9 (by omega)).trans ((u141.2 63 9 (by omega)).trans ((u136.2 63 9 (by omega)).trans ((fr133 63 9 rfl).trans v129e))))
              exact s_vret kx_207_235 kq_207 ⟨_, rfl, rfl, hI146, hFm146, ⟨(LXp.up (LXp.up (LXp.up (show LXp M133 from v132p.2) u136 (Or.inl (by decide))) u141 (Or.inl (by decide))) u146 (Or.inl (by decide))), (by omega), (by omega), (by unfold PRd; omega)⟩⟩
            · have hk152 : M124 63 4 = v122 := ((fr124 63 4 rfl).trans v122e)
              have hk153 : M124 63 9 = v129 := v129e
              exact s_vret kx_207_203 kq_207 ⟨_, rfl, rfl, hI124, hFm124, ⟨(LXp.fr (LXp.fr v49p.1 fr53 rfl) fr124 rfl), (by omega), (by omega), (by unfold PRd; omega)⟩⟩
    · exact s_vret kx_207_26 kq_207 ⟨_, rfl, rfl, hI5, hFm5, ⟨v4p.1, (by omega), (by omega), (by unfold PRd; omega)⟩⟩
  · refine s_iconst (v := 1) kx_207_15 (by decide) ?_
    refine s_goto (t := 20) kx_207_16 (by decide) ?_
    refine s_callV2 (k := 63) (s1 := 2) (s2 := 0) (as := [(0, 1)]) (rest := []) kx_207_20 kp_207_386 (Or.inl rfl) rfl (tk_63 hT) ki_199 kcl_199 rfl rfl (by decide) (m_199 (d := d) (full := 1) hT hI hX (by omega)) (kW (fun v154 M155 hI155 fr155 v154p => ?_))
    have hFm155 := hFm.call fr155 rfl
    have tr156 := rg_63_9 hI155
    refine s_if_ne (t := 27) kx_207_23 (by decide) (fun hc157 => ?_) (fun hc157 => ?_)
    · refine s_bipush (v := 8) kx_207_27 (by decide) ?_
      refine s_aload_n kx_207_29 rfl ?_
      refine r_getK (k := 63) (f := 36) kx_207_30 kp_207_121 (tk_63 hT) kf_12_36 (fun _ => rfl) ((fr155 63 36 rfl).trans v1e) ?_
      refine r_mul kx_207_33 ⟨by omega, by omega⟩ ?_
      refine s_aload_n kx_207_34 rfl ?_
      refine r_getR (k := 63) (f := 19) (k2 := 69) kx_207_35 kp_207_69 (tk_63 hT) kf_12_19 (by decide) (rq_63_19 hI155) ?_
      refine s_aload_n kx_207_38 rfl ?_
      refine r_getK (k := 63) (f := 36) kx_207_39 kp_207_121 (tk_63 hT) kf_12_36 (fun _ => rfl) ((fr155 63 36 rfl).trans v1e) ?_
      refine r_aldK (k := 69) kx_207_42 (tk_69 hT) ⟨by omega, by omega⟩ ((fr155 69 _ rfl).trans v2e) ?_
      refine r_add kx_207_43 ⟨by omega, by omega⟩ ?_
      refine s_istore_n kx_207_44 km_207_1 rfl ?_
      refine s_aload_n kx_207_45 rfl ?_
      refine r_getR (k := 63) (f := 34) (k2 := 84) kx_207_46 kp_207_115 (tk_63 hT) kf_12_34 (by decide) (rq_63_34 hI155) ?_
      refine s_iload_n kx_207_49 rfl ?_
      refine s_aload_n kx_207_50 rfl ?_
      refine s_callV2 (k := 63) (s1 := 1) (s2 := 2) (as := []) (rest := [(0, ((8 * v1) + v2)), rf 84]) kx_207_51 kp_207_390 (Or.inl rfl) rfl (tk_63 hT) ki_201 kcl_201 rfl rfl (by decide) (m_201 (d := d) hT hI155 v154p.1) (kW (fun v158 M159 hI159 fr159 v158p => ?_))
      have hFm159 := hFm155.call fr159 rfl
      have tr160 := rg_63_9 hI159
      refine r_last (k := 84) kx_207_54 (tk_84 hT) ⟨by omega, by omega⟩ hI159 ru_84 (fun M161 hI161 u161 => ?_)
      have hFm161 := hFm159.up u161 rfl
      have tr162 := (u161.2 63 3 (by omega))
      have tr163 := (u161.2 63 4 (by omega))
      have tr164 := (u161.2 63 5 (by omega))
      have tr165 := (u161.2 63 9 (by omega))
      refine s_aload_n kx_207_55 rfl ?_
      refine s_ldc2_w kx_207_56 kp_207_301 ?_
      refine s_callV2 (k := 63) (s1 := 3) (s2 := 0) (as := [(1, 126943973305959)]) (rest := []) kx_207_59 kp_207_394 (Or.inl rfl) rfl (tk_63 hT) ki_200 kcl_200 rfl rfl (by decide) (m_200 (d := d) (w := 126943973305959) hT hI161 (LXp.up v158p.1 u161 (Or.inl (by decide)))) (kV (fun M167 hI167 fr167 v166p => ?_))
      have hFm167 := hFm161.call fr167 rfl
      have tr168 := rg_63_9 hI167
      refine s_aload_n kx_207_62 rfl ?_
      refine r_getR (k := 63) (f := 20) (k2 := 70) kx_207_63 kp_207_72 (tk_63 hT) kf_12_20 (by decide) (rq_63_20 hI167) ?_
      refine s_iload_n kx_207_66 rfl ?_
      refine s_aload_n kx_207_67 rfl ?_
      refine s_iconst (v := 1) kx_207_68 (by decide) ?_
      refine s_bipush (v := 99) kx_207_69 (by decide) ?_
      refine s_callV2 (k := 63) (s1 := 3) (s2 := 2) (as := [(0, 99), (0, 1)]) (rest := [(0, ((8 * v1) + v2)), rf 70]) kx_207_71 kp_207_398 (Or.inl rfl) rfl (tk_63 hT) ki_188 kcl_188 rfl rfl (by decide) (m_188 (d := d) (low := 1) (high := 99) hT hI167 v166p.1) (kW (fun v169 M170 hI170 fr170 v169p => ?_))
      have hFm170 := hFm167.call fr170 rfl
      have tr171 := rg_63_9 hI170
      refine r_ast (k := 70) kx_207_74 (tk_70 hT) ⟨by omega, by omega⟩ hI170 ru_70 (fun M172 hI172 u172 => ?_)
      have hFm172 := hFm170.up u172 rfl
      have tr173 := (u172.2 63 3 (by omega))
      have tr174 := (u172.2 63 4 (by omega))
      have tr175 := (u172.2 63 5 (by omega))
      have tr176 := (u172.2 63 9 (by omega))
      refine s_aload_n kx_207_75 rfl ?_
      refine s_ldc2_w kx_207_76 kp_207_303 ?_
      refine s_callV2 (k := 63) (s1 := 3) (s2 := 0) (as := [(1, 426952976754)]) (rest := []) kx_207_79 kp_207_394 (Or.inl rfl) rfl (tk_63 hT) ki_200 kcl_200 rfl rfl (by decide) (m_200 (d := d) (w := 426952976754) hT hI172 (LXp.up v169p.1 u172 (Or.inl (by decide)))) (kV (fun M178 hI178 fr178 v177p => ?_))
      have hFm178 := hFm172.call fr178 rfl
      have tr179 := rg_63_9 hI178
      refine s_aload_n kx_207_82 rfl ?_
      refine r_getR (k := 63) (f := 21) (k2 := 71) kx_207_83 kp_207_75 (tk_63 hT) kf_12_21 (by decide) (rq_63_21 hI178) ?_
      refine s_iload_n kx_207_86 rfl ?_
      refine s_aload_n kx_207_87 rfl ?_
      refine s_iconst (v := 1) kx_207_88 (by decide) ?_
      refine s_bipush (v := 99) kx_207_89 (by decide) ?_
      refine s_callV2 (k := 63) (s1 := 3) (s2 := 2) (as := [(0, 99), (0, 1)]) (rest := [(0, ((8 * v1) + v2)), rf 71]) kx_207_91 kp_207_398 (Or.inl rfl) rfl (tk_63 hT) ki_188 kcl_188 rfl rfl (by decide) (m_188 (d := d) (low := 1) (high := 99) hT hI178 v177p.1) (kW (fun v180 M181 hI181 fr181 v180p => ?_))
      have hFm181 := hFm178.call fr181 rfl
      have tr182 := rg_63_9 hI181
      refine r_ast (k := 71) kx_207_94 (tk_71 hT) ⟨by omega, by omega⟩ hI181 ru_71 (fun M183 hI183 u183 => ?_)
      have hFm183 := hFm181.up u183 rfl
      have tr184 := (u183.2 63 3 (by omega))
      have tr185 := (u183.2 63 4 (by omega))
      have tr186 := (u183.2 63 5 (by omega))
      have tr187 := (u183.2 63 9 (by omega))
      refine s_aload_n kx_207_95 rfl ?_
      refine s_ldc2_w kx_207_96 kp_207_305 ?_
      refine s_callV2 (k := 63) (s1 := 3) (s2 := 0) (as := [(1, 2003395685)]) (rest := []) kx_207_99 kp_207_394 (Or.inl rfl) rfl (tk_63 hT) ki_200 kcl_200 rfl rfl (by decide) (m_200 (d := d) (w := 2003395685) hT hI183 (LXp.up v180p.1 u183 (Or.inl (by decide)))) (kV (fun M189 hI189 fr189 v188p => ?_))
      have hFm189 := hFm183.call fr189 rfl
      have tr190 := rg_63_9 hI189
      refine s_aload_n kx_207_102 rfl ?_
      refine r_getR (k := 63) (f := 22) (k2 := 72) kx_207_103 kp_207_78 (tk_63 hT) kf_12_22 (by decide) (rq_63_22 hI189) ?_
      refine s_iload_n kx_207_106 rfl ?_
      refine s_aload_n kx_207_107 rfl ?_
      refine s_iconst (v := 1) kx_207_108 (by decide) ?_
      refine s_bipush (v := 9) kx_207_109 (by decide) ?_
      refine s_callV2 (k := 63) (s1 := 3) (s2 := 2) (as := [(0, 9), (0, 1)]) (rest := [(0, ((8 * v1) + v2)), rf 72]) kx_207_111 kp_207_398 (Or.inl rfl) rfl (tk_63 hT) ki_188 kcl_188 rfl rfl (by decide) (m_188 (d := d) (low := 1) (high := 9) hT hI189 v188p.1) (kW (fun v191 M192 hI192 fr192 v191p => ?_))
      have hFm192 := hFm189.call fr192 rfl
      have tr193 := rg_63_9 hI192
      refine r_ast (k := 72) kx_207_114 (tk_72 hT) ⟨by omega, by omega⟩ hI192 ru_72 (fun M194 hI194 u194 => ?_)
      have hFm194 := hFm192.up u194 rfl
      have tr195 := (u194.2 63 3 (by omega))
      have tr196 := (u194.2 63 4 (by omega))
      have tr197 := (u194.2 63 5 (by omega))
      have tr198 := (u194.2 63 9 (by omega))
      refine s_aload_n kx_207_115 rfl ?_
      refine s_ldc2_w kx_207_116 kp_207_307 ?_
      refine s_callV2 (k := 63) (s1 := 3) (s2 := 0) (as := [(1, 24948)]) (rest := []) kx_207_119 kp_207_394 (Or.inl rfl) rfl (tk_63 hT) ki_200 kcl_200 rfl rfl (by decide) (m_200 (d := d) (w := 24948) hT hI194 (LXp.up v191p.1 u194 (Or.inl (by decide)))) (kV (fun M200 hI200 fr200 v199p => ?_))
      have hFm200 := hFm194.call fr200 rfl
      have tr201 := rg_63_9 hI200
      refine s_aload_n kx_207_122 rfl ?_
      refine s_iconst (v := 0) kx_207_123 (by decide) ?_
      refine s_callV2 (k := 63) (s1 := 2) (s2 := 0) (as := [(0, 0)]) (rest := []) kx_207_124 kp_207_383 (Or.inl rfl) rfl (tk_63 hT) ki_202 kcl_202 rfl rfl (by decide) (m_202 (d := d) (kind := 0) hT hI200) (kW (fun v202 M203 hI203 fr203 v202p => ?_))
      have hFm203 := hFm200.call fr203 rfl
      have tr204 := (fr203 63 3 rfl)
      have tr205 := (fr203 63 4 rfl)
      have tr206 := (fr203 63 5 rfl)
      have tr207 := rg_63_9 hI203
      refine s_istore_n kx_207_127 km_207_2 rfl ?_
      refine s_aload_n kx_207_128 rfl ?_
      refine r_getI (k := 63) (f := 9) kx_207_129 kp_207_39 (tk_63 hT) kf_12_9 (fun _ => rfl) (rg_63_9 hI203) (fun v208 v208e v208a v208b => ?_)
      refine s_if_ne (t := 196) kx_207_132 (by decide) (fun hc209 => ?_) (fun hc209 => ?_)
      · refine s_aload_n kx_207_196 rfl ?_
        refine r_getK (k := 63) (f := 9) kx_207_197 kp_207_39 (tk_63 hT) kf_12_9 (fun _ => rfl) v208e ?_
        refine s_if_le (t := 204) kx_207_200 (by decide) (fun hc210 => absurd hc210 (by omega)) (fun hc210 => ?_)
        have hk211 : M203 63 9 = v208 := v208e
        exact s_vret kx_207_203 kq_207 ⟨_, rfl, rfl, hI203, hFm203, ⟨(LXp.fr v199p.1 fr203 rfl), (by omega), (by omega), (by unfold PRd; omega)⟩⟩
      · refine s_aload_n kx_207_135 rfl ?_
        refine r_getR (k := 63) (f := 16) (k2 := 66) kx_207_136 kp_207_60 (tk_63 hT) kf_12_16 (by decide) (rq_63_16 hI203) ?_
        refine s_bipush (v := 8) kx_207_139 (by decide) ?_
        refine s_aload_n kx_207_141 rfl ?_
        refine r_getK (k := 63) (f := 36) kx_207_142 kp_207_121 (tk_63 hT) kf_12_36 (fun _ => rfl) ((fr203 63 36 rfl).trans ((fr200 63 36 rfl).trans ((u194.2 63 36 (by omega)).trans ((fr192 63 36 rfl).trans ((fr189 63 36 rfl).trans ((u183.2 63 36 (by omega)).trans ((fr181 63 36 rfl).trans ((fr178 63 36 rfl).trans ((u172.2 63 36 (by omega)).trans ((fr170 63 36 rfl).trans ((fr167 63 36 rfl).trans ((u161.2 63 36 (by omega)).trans ((fr159 63 36 rfl).trans ((fr155 63 36 rfl).trans v1e)))))))))))))) ?_
        refine r_mul kx_207_145 ⟨by omega, by omega⟩ ?_
        refine s_iload_n kx_207_146 rfl ?_
        refine r_add kx_207_147 ⟨by omega, by omega⟩ ?_
        refine r_aldU (k := 66) kx_207_148 (tk_66 hT) ⟨by omega, by omega⟩ (fun v212 v212e => ?_)
        refine s_aload_n kx_207_149 rfl ?_
        refine r_getR (k := 63) (f := 22) (k2 := 72) kx_207_150 kp_207_78 (tk_63 hT) kf_12_22 (by decide) (rq_63_22 hI203) ?_
        refine s_iload_n kx_207_153 rfl ?_
        refine r_aldK (k := 72) kx_207_154 (tk_72 hT) ⟨by omega, by omega⟩ ((fr203 72 _ rfl).trans ((fr200 72 _ rfl).trans u194.1)) ?_
        refine s_icmp_lt (t := 187) kx_207_155 (by decide) (fun hc213 => ?_) (fun hc213 => ?_)
        · refine s_aload_n kx_207_187 rfl ?_
          refine s_iconst (v := 3) kx_207_188 (by decide) ?_
          refine s_aload_n kx_207_189 rfl ?_
          refine r_getI (k := 63) (f := 4) kx_207_190 kp_207_23 (tk_63 hT) kf_12_4 (fun _ => rfl) (rg_63_4 hI203) (fun v214 v214e v214a v214b => ?_)
          refine s_callV2 (k := 63) (s1 := 3) (s2 := 0) (as := [(0, v214), (0, 3)]) (rest := []) kx_207_193 kp_207_263 (Or.inl rfl) rfl (tk_63 hT) ki_176 kcl_176 rfl rfl (by decide) (m_176 (d := d + 2) (kind := 3) (place := v214) hT hI203 (by omega)) (kV (fun M216 hI216 fr216 v215p => ?_))
          have hFm216 := hFm203.call fr216 rfl
          have tr217 := (fr216 63 3 rfl)
          have tr218 := (fr216 63 4 rfl)
          have tr219 := (fr216 63 5 rfl)
          have tr220 := rg_63_9 hI216
          refine s_aload_n kx_207_196 rfl ?_
          refine r_getI (k := 63) (f := 9) kx_207_197 kp_207_39 (tk_63 hT) kf_12_9 (fun _ => rfl) (rg_63_9 hI216) (fun v221 v221e v221a v221b => ?_)
          refine s_if_le (t := 204) kx_207_200 (by decide) (fun hc222 => ?_) (fun hc222 => ?_)
          · refine s_aload_n kx_207_204 rfl ?_
            have hl223 := (show LXp M216 from (LXp.fr (LXp.fr v199p.1 fr203 rfl) fr216 rfl)).1
            refine s_callV2 (k := 63) (s1 := 1) (s2 := 0) (as := []) (rest := []) kx_207_205 kp_207_286 (Or.inl rfl) rfl (tk_63 hT) ki_180 kcl_180 rfl rfl (by decide) (m_180 (d := d + 1) hT hI216) (kV (fun M225 hI225 fr225 v224p => ?_))
            have hFm225 := hFm216.call fr225 rfl
            have tr226 := (fr225 63 9 rfl)
            have tr227 := rg_63_9 hI225
            refine s_aload_n kx_207_208 rfl ?_
            refine r_getR (k := 63) (f := 23) (k2 := 73) kx_207_209 kp_207_81 (tk_63 hT) kf_12_23 (by decide) (rq_63_23 hI225) ?_
            refine s_iload_n kx_207_212 rfl ?_
            refine s_iload_n kx_207_213 rfl ?_
            refine r_ast (k := 73) kx_207_214 (tk_73 hT) ⟨by omega, by omega⟩ hI225 (ru_73 (by omega) (by omega)) (fun M228 hI228 u228 => ?_)
            have hFm228 := hFm225.up u228 rfl
            have tr229 := (u228.2 63 3 (by omega))
            have tr230 := (u228.2 63 4 (by omega))
            have tr231 := (u228.2 63 5 (by omega))
            have tr232 := (u228.2 63 9 (by omega))
            refine s_aload_n kx_207_215 rfl ?_
            refine r_getR (k := 63) (f := 24) (k2 := 74) kx_207_216 kp_207_84 (tk_63 hT) kf_12_24 (by decide) (rq_63_24 hI228) ?_
            refine s_iload_n kx_207_219 rfl ?_
            refine s_iconst (v := (-1)) kx_207_220 (by decide) ?_
            refine r_ast (k := 74) kx_207_221 (tk_74 hT) ⟨by omega, by omega⟩ hI228 (ru_74 (by omega) (by omega)) (fun M233 hI233 u233 => ?_)
            have hFm233 := hFm228.up u233 rfl
            have tr234 := (u233.2 63 3 (by omega))
            have tr235 := (u233.2 63 4 (by omega))
            have tr236 := (u233.2 63 5 (by omega))
            have tr237 := (u233.2 63 9 (by omega))
            refine s_aload_n kx_207_222 rfl ?_
            refine r_getR (k := 63) (f := 19) (k2 := 69) kx_207_223 kp_207_69 (tk_63 hT) kf_12_19 (by decide) (rq_63_19 hI233) ?_
            refine s_aload_n kx_207_226 rfl ?_
            refine r_getK (k := 63) (f := 36) kx_207_227 kp_207_121 (tk_63 hT) kf_12_36 (fun _ => rfl) ((u233.2 63 36 (by omega)).trans ((u228.2 63 36 (by omega)).trans ((fr225 63 36 rfl).trans ((fr216 63 36 rfl).trans ((fr203 63 36 rfl).trans ((fr200 63 36 rfl).trans ((u194.2 63 36 (by omega)).trans ((fr192 63 36 rfl).trans ((fr189 63 36 rfl).trans ((u183.2 63 36 (by omega)).trans ((fr181 63 36 rfl).trans ((fr178 63 36 rfl).trans ((u172.2 63 36 (by omega)).trans ((fr170 63 36 rfl).trans ((fr167 63 36 rfl).trans ((u161.2 63 36 (by omega)).trans ((fr159 63 36 rfl).trans ((fr155 63 36 rfl).trans v1e)))))))))))))))))) ?_
            refine s_dup2 kx_207_230 rfl rfl ?_
            refine r_aldK (k := 69) kx_207_231 (tk_69 hT) ⟨by omega, by omega⟩ ((u233.2 69 _ (by omega)).trans ((u228.2 69 _ (by omega)).trans ((fr225 69 _ rfl).trans ((fr216 69 _ rfl).trans ((fr203 69 _ rfl).trans ((fr200 69 _ rfl).trans ((u194.2 69 _ (by omega)).trans ((fr192 69 _ rfl).trans ((fr189 69 _ rfl).trans ((u183.2 69 _ (by omega)).trans ((fr181 69 _ rfl).trans ((fr178 69 _ rfl).trans ((u172.2 69 _ (by omega)).trans ((fr170 69 _ rfl).trans ((fr167 69 _ rfl).trans ((u161.2 69 _ (by omega)).trans ((fr159 69 _ rfl).trans ((fr155 69 _ rfl).trans v2e)))))))))))))))))) ?_
            refine s_iconst (v := 1) kx_207_232 (by decide) ?_
            refine r_add kx_207_233 ⟨by omega, by omega⟩ ?_
            refine r_ast (k := 69) kx_207_234 (tk_69 hT) ⟨by omega, by omega⟩ hI233 (ru_69 (by omega) (by omega)) (fun M238 hI238 u238 => ?_)
            have hFm238 := hFm233.up u238 rfl
            have tr239 := (u238.2 63 3 (by omega))
            have tr240 := (u238.2 63 4 (by omega))
            have tr241 := (u238.2 63 5 (by omega))
            have tr242 := (u238.2 63 9 (by omega))
            have hk243 : M238 63 9 = v221 := ((u238.2 63 9 (by omega)).trans ((u233.2 63 9 (by omega)).trans ((u228.2 63 9 (by omega)).trans ((fr225 63 9 rfl).trans v221e))))
            exact s_vret kx_207_235 kq_207 ⟨_, rfl, rfl, hI238, hFm238, ⟨(LXp.up (LXp.up (LXp.up (show LXp M225 from v224p.2) u228 (Or.inl (by decide))) u233 (Or.inl (by decide))) u238 (Or.inl (by decide))), (by omega), (by omega), (by unfold PRd; omega)⟩⟩
          · have hk244 : M216 63 4 = v214 := ((fr216 63 4 rfl).trans v214e)
            have hk245 : M216 63 9 = v221 := v221e
            exact s_vret kx_207_203 kq_207 ⟨_, rfl, rfl, hI216, hFm216, ⟨(LXp.fr (LXp.fr v199p.1 fr203 rfl) fr216 rfl), (by omega), (by omega), (by unfold PRd; omega)⟩⟩
        · refine s_aload_n kx_207_158 rfl ?_
          refine s_iload_n kx_207_159 rfl ?_
          refine s_callV2 (k := 63) (s1 := 2) (s2 := 0) (as := [(0, v202)]) (rest := []) kx_207_160 kp_207_404 (Or.inl rfl) rfl (tk_63 hT) ki_206 kcl_206 rfl rfl (by decide) (m_206 (d := d + 2) (r := v202) hT hI203) (kF (fun v246 v246p => ?_))
          refine s_aload_n kx_207_163 rfl ?_
          refine r_getR (k := 63) (f := 22) (k2 := 72) kx_207_164 kp_207_78 (tk_63 hT) kf_12_22 (by decide) (rq_63_22 hI203) ?_
          refine s_iload_n kx_207_167 rfl ?_
          refine r_aldK (k := 72) kx_207_168 (tk_72 hT) ⟨by omega, by omega⟩ ((fr203 72 _ rfl).trans ((fr200 72 _ rfl).trans u194.1)) ?_
          refine r_iaddR kx_207_169 (fun v247 v247a v247b => ?_)
          refine s_aload_n kx_207_170 rfl ?_
          refine r_getR (k := 63) (f := 17) (k2 := 67) kx_207_171 kp_207_63 (tk_63 hT) kf_12_17 (by decide) (rq_63_17 hI203) ?_
          refine s_bipush (v := 8) kx_207_174 (by decide) ?_
          refine s_aload_n kx_207_176 rfl ?_
          refine r_getK (k := 63) (f := 36) kx_207_177 kp_207_121 (tk_63 hT) kf_12_36 (fun _ => rfl) ((fr203 63 36 rfl).trans ((fr200 63 36 rfl).trans ((u194.2 63 36 (by omega)).trans ((fr192 63 36 rfl).trans ((fr189 63 36 rfl).trans ((u183.2 63 36 (by omega)).trans ((fr181 63 36 rfl).trans ((fr178 63 36 rfl).trans ((u172.2 63 36 (by omega)).trans ((fr170 63 36 rfl).trans ((fr167 63 36 rfl).trans ((u161.2 63 36 (by omega)).trans ((fr159 63 36 rfl).trans ((fr155 63 36 rfl).trans v1e)))))))))))))) ?_
          refine r_mul kx_207_180 ⟨by omega, by omega⟩ ?_
          refine s_iload_n kx_207_181 rfl ?_
          refine r_add kx_207_182 ⟨by omega, by omega⟩ ?_
          refine r_aldU (k := 67) kx_207_183 (tk_67 hT) ⟨by omega, by omega⟩ (fun v248 v248e => ?_)
          refine s_icmp_le (t := 196) kx_207_184 (by decide) (fun hc249 => ?_) (fun hc249 => ?_)
          · refine s_aload_n kx_207_196 rfl ?_
            refine r_getK (k := 63) (f := 9) kx_207_197 kp_207_39 (tk_63 hT) kf_12_9 (fun _ => rfl) v208e ?_
            refine s_if_le (t := 204) kx_207_200 (by decide) (fun hc250 => ?_) (fun hc250 => absurd hc250 (by omega))
            refine s_aload_n kx_207_204 rfl ?_
            have hl251 := (show LXp M203 from (LXp.fr v199p.1 fr203 rfl)).1
            refine s_callV2 (k := 63) (s1 := 1) (s2 := 0) (as := []) (rest := []) kx_207_205 kp_207_286 (Or.inl rfl) rfl (tk_63 hT) ki_180 kcl_180 rfl rfl (by decide) (m_180 (d := d + 1) hT hI203) (kV (fun M253 hI253 fr253 v252p => ?_))
            have hFm253 := hFm203.call fr253 rfl
            have tr254 := (fr253 63 9 rfl)
            have tr255 := rg_63_9 hI253
            refine s_aload_n kx_207_208 rfl ?_
            refine r_getR (k := 63) (f := 23) (k2 := 73) kx_207_209 kp_207_81 (tk_63 hT) kf_12_23 (by decide) (rq_63_23 hI253) ?_
            refine s_iload_n kx_207_212 rfl ?_
            refine s_iload_n kx_207_213 rfl ?_
            refine r_ast (k := 73) kx_207_214 (tk_73 hT) ⟨by omega, by omega⟩ hI253 (ru_73 (by omega) (by omega)) (fun M256 hI256 u256 => ?_)
            have hFm256 := hFm253.up u256 rfl
            have tr257 := (u256.2 63 3 (by omega))
            have tr258 := (u256.2 63 4 (by omega))
            have tr259 := (u256.2 63 5 (by omega))
            have tr260 := (u256.2 63 9 (by omega))
            refine s_aload_n kx_207_215 rfl ?_
            refine r_getR (k := 63) (f := 24) (k2 := 74) kx_207_216 kp_207_84 (tk_63 hT) kf_12_24 (by decide) (rq_63_24 hI256) ?_
            refine s_iload_n kx_207_219 rfl ?_
            refine s_iconst (v := (-1)) kx_207_220 (by decide) ?_
            refine r_ast (k := 74) kx_207_221 (tk_74 hT) ⟨by omega, by omega⟩ hI256 (ru_74 (by omega) (by omega)) (fun M261 hI261 u261 => ?_)
            have hFm261 := hFm256.up u261 rfl
            have tr262 := (u261.2 63 3 (by omega))
            have tr263 := (u261.2 63 4 (by omega))
            have tr264 := (u261.2 63 5 (by omega))
            have tr265 := (u261.2 63 9 (by omega))
            refine s_aload_n kx_207_222 rfl ?_
            refine r_getR (k := 63) (f := 19) (k2 := 69) kx_207_223 kp_207_69 (tk_63 hT) kf_12_19 (by decide) (rq_63_19 hI261) ?_
            refine s_aload_n kx_207_226 rfl ?_
            refine r_getK (k := 63) (f := 36) kx_207_227 kp_207_121 (tk_63 hT) kf_12_36 (fun _ => rfl) ((u261.2 63 36 (by omega)).trans ((u256.2 63 36 (by omega)).trans ((fr253 63 36 rfl).trans ((fr203 63 36 rfl).trans ((fr200 63 36 rfl).trans ((u194.2 63 36 (by omega)).trans ((fr192 63 36 rfl).trans ((fr189 63 36 rfl).trans ((u183.2 63 36 (by omega)).trans ((fr181 63 36 rfl).trans ((fr178 63 36 rfl).trans ((u172.2 63 36 (by omega)).trans ((fr170 63 36 rfl).trans ((fr167 63 36 rfl).trans ((u161.2 63 36 (by omega)).trans ((fr159 63 36 rfl).trans ((fr155 63 36 rfl).trans v1e))))))))))))))))) ?_
            refine s_dup2 kx_207_230 rfl rfl ?_
            refine r_aldK (k := 69) kx_207_231 (tk_69 hT) ⟨by omega, by omega⟩ ((u261.2 69 _ (by omega)).trans ((u256.2 69 _ (by omega)).trans ((fr253 69 _ rfl).trans ((fr203 69 _ rfl).trans ((fr200 69 _ rfl).trans ((u194.2 69 _ (by omega)).trans ((fr192 69 _ rfl).trans ((fr189 69 _ rfl).trans ((u183.2 69 _ (by omega)).trans ((fr181 69 _ rfl).trans ((fr178 69 _ rfl).trans ((u172.2 69 _ (by omega)).trans ((fr170 69 _ rfl).trans ((fr167 69 _ rfl).trans ((u161.2 69 _ (by omega)).trans ((fr159 69 _ rfl).trans ((fr155 69 _ rfl).trans v2e))))))))))))))))) ?_
            refine s_iconst (v := 1) kx_207_232 (by decide) ?_
            refine r_add kx_207_233 ⟨by omega, by omega⟩ ?_
            refine r_ast (k := 69) kx_207_234 (tk_69 hT) ⟨by omega, by omega⟩ hI261 (ru_69 (by omega) (by omega)) (fun M266 hI266 u266 => ?_)
            have hFm266 := hFm261.up u266 rfl
            have tr267 := (u266.2 63 3 (by omega))
            have tr268 := (u266.2 63 4 (by omega))
            have tr269 := (u266.2 63 5 (by omega))
            have tr270 := (u266.2 63 9 (by omega))
            have hk271 : M266 63 9 = v208 := ((u266.2 63 9 (by omega)).trans ((u261.2 63 9 (by omega)).trans ((u256.2 63 9 (by omega)).trans ((fr253 63 9 rfl).trans v208e))))
            exact s_vret kx_207_235 kq_207 ⟨_, rfl, rfl, hI266, hFm266, ⟨(LXp.up (LXp.up (LXp.up (show LXp M253 from v252p.2) u256 (Or.inl (by decide))) u261 (Or.inl (by decide))) u266 (Or.inl (by decide))), (by omega), (by omega), (by unfold PRd; omega)⟩⟩
          · refine s_aload_n kx_207_187 rfl ?_
            refine s_iconst (v := 3) kx_207_188 (by decide) ?_
            refine s_aload_n kx_207_189 rfl ?_
            refine r_getI (k := 63) (f := 4) kx_207_190 kp_207_23 (tk_63 hT) kf_12_4 (fun _ => rfl) (rg_63_4 hI203) (fun v272 v272e v272a v272b => ?_)
            refine s_callV2 (k := 63) (s1 := 3) (s2 := 0) (as := [(0, v272), (0, 3)]) (rest := []) kx_207_193 kp_207_263 (Or.inl rfl) rfl (tk_63 hT) ki_176 kcl_176 rfl rfl (by decide) (m_176 (d := d + 2) (kind := 3) (place := v272) hT hI203 (by omega)) (kV (fun M274 hI274 fr274 v273p => ?_))
            have hFm274 := hFm203.call fr274 rfl
            have tr275 := (fr274 63 3 rfl)
            have tr276 := (fr274 63 4 rfl)
            have tr277 := (fr274 63 5 rfl)
            have tr278 := rg_63_9 hI274
            refine s_aload_n kx_207_196 rfl ?_
            refine r_getI (k := 63) (f := 9) kx_207_197 kp_207_39 (tk_63 hT) kf_12_9 (fun _ => rfl) (rg_63_9 hI274) (fun v279 v279e v279a v279b => ?_)
            refine s_if_le (t := 204) kx_207_200 (by decide) (fun hc280 => ?_) (fun hc280 => ?_)
            · refine s_aload_n kx_207_204 rfl ?_
              have hl281 := (show LXp M274 from (LXp.fr (LXp.fr v199p.1 fr203 rfl) fr274 rfl)).1
              refine s_callV2 (k := 63) (s1 := 1) (s2 := 0) (as := []) (rest := []) kx_207_205 kp_207_286 (Or.inl rfl) rfl (tk_63 hT) ki_180 kcl_180 rfl rfl (by decide) (m_180 (d := d + 1) hT hI274) (kV (fun M283 hI283 fr283 v282p => ?_))
              have hFm283 := hFm274.call fr283 rfl
              have tr284 := (fr283 63 9 rfl)
              have tr285 := rg_63_9 hI283
              refine s_aload_n kx_207_208 rfl ?_
              refine r_getR (k := 63) (f := 23) (k2 := 73) kx_207_209 kp_207_81 (tk_63 hT) kf_12_23 (by decide) (rq_63_23 hI283) ?_
              refine s_iload_n kx_207_212 rfl ?_
              refine s_iload_n kx_207_213 rfl ?_
              refine r_ast (k := 73) kx_207_214 (tk_73 hT) ⟨by omega, by omega⟩ hI283 (ru_73 (by omega) (by omega)) (fun M286 hI286 u286 => ?_)
              have hFm286 := hFm283.up u286 rfl
              have tr287 := (u286.2 63 3 (by omega))
              have tr288 := (u286.2 63 4 (by omega))
              have tr289 := (u286.2 63 5 (by omega))
              have tr290 := (u286.2 63 9 (by omega))
              refine s_aload_n kx_207_215 rfl ?_
              refine r_getR (k := 63) (f := 24) (k2 := 74) kx_207_216 kp_207_84 (tk_63 hT) kf_12_24 (by decide) (rq_63_24 hI286) ?_
              refine s_iload_n kx_207_219 rfl ?_
              refine s_iconst (v := (-1)) kx_207_220 (by decide) ?_
              refine r_ast (k := 74) kx_207_221 (tk_74 hT) ⟨by omega, by omega⟩ hI286 (ru_74 (by omega) (by omega)) (fun M291 hI291 u291 => ?_)
              have hFm291 := hFm286.up u291 rfl
              have tr292 := (u291.2 63 3 (by omega))
              have tr293 := (u291.2 63 4 (by omega))
              have tr294 := (u291.2 63 5 (by omega))
              have tr295 := (u291.2 63 9 (by omega))
              refine s_aload_n kx_207_222 rfl ?_
              refine r_getR (k := 63) (f := 19) (k2 := 69) kx_207_223 kp_207_69 (tk_63 hT) kf_12_19 (by decide) (rq_63_19 hI291) ?_
              refine s_aload_n kx_207_226 rfl ?_
              refine r_getK (k := 63) (f := 36) kx_207_227 kp_207_121 (tk_63 hT) kf_12_36 (fun _ => rfl) ((u291.2 63 36 (by omega)).trans ((u286.2 63 36 (by omega)).trans ((fr283 63 36 rfl).trans ((fr274 63 36 rfl).trans ((fr203 63 36 rfl).trans ((fr200 63 36 rfl).trans ((u194.2 63 36 (by omega)).trans ((fr192 63 36 rfl).trans ((fr189 63 36 rfl).trans ((u183.2 63 36 (by omega)).trans ((fr181 63 36 rfl).trans ((fr178 63 36 rfl).trans ((u172.2 63 36 (by omega)).trans ((fr170 63 36 rfl).trans ((fr167 63 36 rfl).trans ((u161.2 63 36 (by omega)).trans ((fr159 63 36 rfl).trans ((fr155 63 36 rfl).trans v1e)))))))))))))))))) ?_
              refine s_dup2 kx_207_230 rfl rfl ?_
              refine r_aldK (k := 69) kx_207_231 (tk_69 hT) ⟨by omega, by omega⟩ ((u291.2 69 _ (by omega)).trans ((u286.2 69 _ (by omega)).trans ((fr283 69 _ rfl).trans ((fr274 69 _ rfl).trans ((fr203 69 _ rfl).trans ((fr200 69 _ rfl).trans ((u194.2 69 _ (by omega)).trans ((fr192 69 _ rfl).trans ((fr189 69 _ rfl).trans ((u183.2 69 _ (by omega)).trans ((fr181 69 _ rfl).trans ((fr178 69 _ rfl).trans ((u172.2 69 _ (by omega)).trans ((fr170 69 _ rfl).trans ((fr167 69 _ rfl).trans ((u161.2 69 _ (by omega)).trans ((fr159 69 _ rfl).trans ((fr155 69 _ rfl).trans v2e)))))))))))))))))) ?_
              refine s_iconst (v := 1) kx_207_232 (by decide) ?_
              refine r_add kx_207_233 ⟨by omega, by omega⟩ ?_
              refine r_ast (k := 69) kx_207_234 (tk_69 hT) ⟨by omega, by omega⟩ hI291 (ru_69 (by omega) (by omega)) (fun M296 hI296 u296 => ?_)
              have hFm296 := hFm291.up u296 rfl
              have tr297 := (u296.2 63 3 (by omega))
              have tr298 := (u296.2 63 4 (by omega))
              have tr299 := (u296.2 63 5 (by omega))
              have tr300 := (u296.2 63 9 (by omega))
              have hk301 : M296 63 9 = v279 := ((u296.2 63 9 (by omega)).trans ((u291.2 63 9 (by omega)).trans ((u286.2 63 9 (by omega)).trans ((fr283 63 9 rfl).trans v279e))))
              exact s_vret kx_207_235 kq_207 ⟨_, rfl, rfl, hI296, hFm296, ⟨(LXp.up (LXp.up (LXp.up (show LXp M283 from v282p.2) u286 (Or.inl (by decide))) u291 (Or.inl (by decide))) u296 (Or.inl (by decide))), (by omega), (by omega), (by unfold PRd; omega)⟩⟩
            · have hk302 : M274 63 4 = v272 := ((fr274 63 4 rfl).trans v272e)
              have hk303 : M274 63 9 = v279 := v279e
              exact s_vret kx_207_203 kq_207 ⟨_, rfl, rfl, hI274, hFm274, ⟨(LXp.fr (LXp.fr v199p.1 fr203 rfl) fr274 rfl), (by omega), (by omega), (by unfold PRd; omega)⟩⟩
    · exact s_vret kx_207_26 kq_207 ⟨_, rfl, rfl, hI155, hFm155, ⟨v154p.1, (by omega), (by omega), (by unfold PRd; omega)⟩⟩
theorem kx_208_0 : x_code k_P 208 0 = some (.aload_n 0, 1) := by decide +kernel
theorem kx_208_1 : x_code k_P 208 1 = some (.iconst 1, 1) := by decide +kernel
theorem kx_208_2 : x_code k_P 208 2 = some (.invokevirtual 383, 3) := by decide +kernel
theorem kp_208_383 : x_pool k_P 208 383 = (2, 202, 1) := by decide +kernel
theorem kx_208_5 : x_code k_P 208 5 = some (.istore_n 2, 1) := by decide +kernel
theorem km_208_2 : 2 < x_maxL k_P 208 := by decide +kernel
theorem kx_208_6 : x_code k_P 208 6 = some (.aload_n 0, 1) := by decide +kernel
theorem kx_208_7 : x_code k_P 208 7 = some (.getfield 39, 3) := by decide +kernel
theorem kp_208_39 : x_pool k_P 208 39 = (1, 12, 9) := by decide +kernel
theorem kx_208_10 : x_code k_P 208 10 = some (.ifCond .ne 35, 3) := by decide +kernel
theorem kx_208_45 : x_code k_P 208 45 = some (.aload_n 0, 1) := by decide +kernel
theorem kx_208_46 : x_code k_P 208 46 = some (.getfield 39, 3) := by decide +kernel
theorem kx_208_49 : x_code k_P 208 49 = some (.ifCond .ne 7, 3) := by decide +kernel
theorem kx_208_56 : x_code k_P 208 56 = some (.iload_n 2, 1) := by decide +kernel
theorem kx_208_57 : x_code k_P 208 57 = some (.ireturn, 1) := by decide +kernel
theorem kq_208 : x_retk k_P 208 = 1 := by decide +kernel
theorem kx_208_13 : x_code k_P 208 13 = some (.iload_n 2, 1) := by decide +kernel
theorem kx_208_14 : x_code k_P 208 14 = some (.iload_n 1, 1) := by decide +kernel
theorem kx_208_15 : x_code k_P 208 15 = some (.if_icmp .eq 21, 3) := by decide +kernel
theorem kx_208_36 : x_code k_P 208 36 = some (.aload_n 0, 1) := by decide +kernel
theorem kx_208_37 : x_code k_P 208 37 = some (.iconst 3, 1) := by decide +kernel
theorem kx_208_38 : x_code k_P 208 38 = some (.aload_n 0, 1) := by decide +kernel
theorem kx_208_39 : x_code k_P 208 39 = some (.getfield 23, 3) := by decide +kernel
theorem kp_208_23 : x_pool k_P 208 23 = (1, 12, 4) := by decide +kernel
theorem kx_208_42 : x_code k_P 208 42 = some (.invokevirtual 263, 3) := by decide +kernel
theorem kp_208_263 : x_pool k_P 208 263 = (2, 176, 2) := by decide +kernel
theorem kx_208_52 : x_code k_P 208 52 = some (.aload_n 0, 1) := by decide +kernel
theorem kx_208_53 : x_code k_P 208 53 = some (.invokevirtual 286, 3) := by decide +kernel
theorem kp_208_286 : x_pool k_P 208 286 = (2, 180, 0) := by decide +kernel
theorem kx_208_18 : x_code k_P 208 18 = some (.aload_n 0, 1) := by decide +kernel
theorem kx_208_19 : x_code k_P 208 19 = some (.getfield 84, 3) := by decide +kernel
theorem kp_208_84 : x_pool k_P 208 84 = (1, 12, 24) := by decide +kernel
theorem kx_208_22 : x_code k_P 208 22 = some (.bipush 8, 2) := by decide +kernel
theorem kx_208_24 : x_code k_P 208 24 = some (.aload_n 0, 1) := by decide +kernel
theorem kx_208_25 : x_code k_P 208 25 = some (.getfield 121, 3) := by decide +kernel
theorem kp_208_121 : x_pool k_P 208 121 = (1, 12, 36) := by decide +kernel
theorem kx_208_28 : x_code k_P 208 28 = some (.imul, 1) := by decide +kernel
theorem kx_208_29 : x_code k_P 208 29 = some (.iload_n 2, 1) := by decide +kernel
theorem kx_208_30 : x_code k_P 208 30 = some (.iadd, 1) := by decide +kernel
theorem kx_208_31 : x_code k_P 208 31 = some (.iaload, 1) := by decide +kernel
theorem kx_208_32 : x_code k_P 208 32 = some (.iconst (-1), 1) := by decide +kernel
theorem kx_208_33 : x_code k_P 208 33 = some (.if_icmp .eq 12, 3) := by decide +kernel
def fS_208_m : List (Nat × Nat) := [(63, 10), (63, 13), (63, 3), (63, 4), (63, 5), (63, 6), (63, 7), (63, 8), (63, 9)]
theorem m_208 {xs : Nat → Int} {Ln d : Nat} {T : List cK} {M : cM} (hT : TT T) (hI : Rng M) {but : Int} (hX : LXp M) : cC k_P xs Ln (d + 3) 208 [rf 63, (0, but)] (T, M) (qW T M fS_208_m 0 (fun v M1 => 0 ≤ v ∧ v ≤ 7 ∧ (LXp M1 ∧ M 63 4 ≤ M1 63 4 ∧ M 63 9 ≤ M1 63 9 ∧ (PRd M M1)))) := by
  show cP k_P xs Ln (d + 3) 208 0 [(0, rf 63), (1, (0, but))] [] (T, M) _
  have hFm : Fr fS_208_m M M := Fr.refl
  have h639 := rg_63_9 hI
  have ⟨lx1, lx2⟩ := hX
  refine s_aload_n kx_208_0 rfl ?_
  refine s_iconst (v := 1) kx_208_1 (by decide) ?_
  refine s_callV2 (k := 63) (s1 := 2) (s2 := 0) (as := [(0, 1)]) (rest := []) kx_208_2 kp_208_383 (Or.inl rfl) rfl (tk_63 hT) ki_202 kcl_202 rfl rfl (by decide) (m_202 (d := d) (kind := 1) hT hI) (kW (fun v1 M2 hI2 fr2 v1p => ?_))
  have hFm2 := hFm.call fr2 rfl
  have tr3 := (fr2 63 3 rfl)
  have tr4 := (fr2 63 4 rfl)
  have tr5 := (fr2 63 5 rfl)
  have tr6 := rg_63_9 hI2
  refine s_istore_n kx_208_5 km_208_2 rfl ?_
  refine s_aload_n kx_208_6 rfl ?_
  refine r_getI (k := 63) (f := 9) kx_208_7 kp_208_39 (tk_63 hT) kf_12_9 (fun _ => rfl) (rg_63_9 hI2) (fun v7 v7e v7a v7b => ?_)
  refine s_if_ne (t := 45) kx_208_10 (by decide) (fun hc8 => ?_) (fun hc8 => ?_)
  · refine s_aload_n kx_208_45 rfl ?_
    refine r_getK (k := 63) (f := 9) kx_208_46 kp_208_39 (tk_63 hT) kf_12_9 (fun _ => rfl) v7e ?_
    refine s_if_ne (t := 56) kx_208_49 (by decide) (fun hc9 => ?_) (fun hc9 => absurd hc9 (by omega))
    refine s_iload_n kx_208_56 rfl ?_
    have hk10 : M2 63 9 = v7 := v7e
    exact s_iret kx_208_57 (Or.inl kq_208) ⟨_, _, rfl, rfl, hI2, hFm2, ⟨by omega, by omega, (LXp.fr hX fr2 rfl), (by omega), (by omega), (by unfold PRd; omega)⟩⟩
  · refine s_iload_n kx_208_13 rfl ?_
    refine s_iload_n kx_208_14 rfl ?_
    refine s_icmp_eq (t := 36) kx_208_15 (by decide) (fun hc11 => ?_) (fun hc11 => ?_)
    · refine s_aload_n kx_208_36 rfl ?_
      refine s_iconst (v := 3) kx_208_37 (by decide) ?_
      refine s_aload_n kx_208_38 rfl ?_
      refine r_getI (k := 63) (f := 4) kx_208_39 kp_208_23 (tk_63 hT) kf_12_4 (fun _ => rfl) (rg_63_4 hI2) (fun v12 v12e v12a v12b => ?_)
      have v12z : M 63 4 = v12 := ((fr2 63 4 rfl)).symm.trans v12e
      refine s_callV2 (k := 63) (s1 := 3) (s2 := 0) (as := [(0, v12), (0, 3)]) (rest := []) kx_208_42 kp_208_263 (Or.inl rfl) rfl (tk_63 hT) ki_176 kcl_176 rfl rfl (by decide) (m_176 (d := d + 2) (kind := 3) (place := v12) hT hI2 (by omega)) (kV (fun M14 hI14 fr14 v13p => ?_))
      have hFm14 := hFm2.call fr14 rfl
      have tr15 := (fr14 63 3 rfl)
      have tr16 := (fr14 63 4 rfl)
      have tr17 := (fr14 63 5 rfl)
      have tr18 := rg_63_9 hI14
      refine s_aload_n kx_208_45 rfl ?_
      refine r_getI (k := 63) (f := 9) kx_208_46 kp_208_39 (tk_63 hT) kf_12_9 (fun _ => rfl) (rg_63_9 hI14) (fun v19 v19e v19a v19b => ?_)
      refine s_if_ne (t := 56) kx_208_49 (by decide) (fun hc20 => ?_) (fun hc20 => ?_)
      · refine s_iload_n kx_208_56 rfl ?_
        have hk21 : M14 63 4 = v12 := ((fr14 63 4 rfl).trans v12e)
        have hk22 : M14 63 9 = v19 := v19e
        exact s_iret kx_208_57 (Or.inl kq_208) ⟨_, _, rfl, rfl, hI14, hFm14, ⟨by omega, by omega, (LXp.fr (LXp.fr hX fr2 rfl) fr14 rfl), (by omega), (by omega), (by unfold PRd; omega)⟩⟩
      · refine s_aload_n kx_208_52 rfl ?_
        refine s_callV2 (k := 63) (s1 := 1) (s2 := 0) (as := []) (rest := []) kx_208_53 kp_208_286 (Or.inl rfl) rfl (tk_63 hT) ki_180 kcl_180 rfl rfl (by decide) (m_180 (d := d + 1) hT hI14) (kV (fun M24 hI24 fr24 v23p => ?_))
        have hFm24 := hFm14.call fr24 rfl
        have tr25 := (fr24 63 9 rfl)
        have tr26 := rg_63_9 hI24
        refine s_iload_n kx_208_56 rfl ?_
        have hk27 : M24 63 9 = v19 := ((fr24 63 9 rfl).trans v19e)
        exact s_iret kx_208_57 (Or.inl kq_208) ⟨_, _, rfl, rfl, hI24, hFm24, ⟨by omega, by omega, (show LXp M24 from v23p.2), (by omega), (by omega), (by unfold PRd; omega)⟩⟩
    · refine s_aload_n kx_208_18 rfl ?_
      refine r_getR (k := 63) (f := 24) (k2 := 74) kx_208_19 kp_208_84 (tk_63 hT) kf_12_24 (by decide) (rq_63_24 hI2) ?_
      refine s_bipush (v := 8) kx_208_22 (by decide) ?_
      refine s_aload_n kx_208_24 rfl ?_
      refine r_getI (k := 63) (f := 36) kx_208_25 kp_208_121 (tk_63 hT) kf_12_36 (fun _ => rfl) (rg_63_36 hI2) (fun v28 v28e v28a v28b => ?_)
      have v28z : M 63 36 = v28 := ((fr2 63 36 rfl)).symm.trans v28e
      refine r_mul kx_208_28 ⟨by omega, by omega⟩ ?_
      refine s_iload_n kx_208_29 rfl ?_
      refine r_add kx_208_30 ⟨by omega, by omega⟩ ?_
      refine r_ald (k := 74) kx_208_31 (tk_74 hT) ⟨by omega, by omega⟩ (rg_74 hI2) (fun v29 v29e v29a v29b => ?_)
      refine s_iconst (v := (-1)) kx_208_32 (by decide) ?_
      refine s_icmp_eq (t := 45) kx_208_33 (by decide) (fun hc30 => ?_) (fun hc30 => ?_)
      · refine s_aload_n kx_208_45 rfl ?_
        refine r_getK (k := 63) (f := 9) kx_208_46 kp_208_39 (tk_63 hT) kf_12_9 (fun _ => rfl) v7e ?_
        refine s_if_ne (t := 56) kx_208_49 (by decide) (fun hc31 => absurd hc31 (by omega)) (fun hc31 => ?_)
        refine s_aload_n kx_208_52 rfl ?_
        refine s_callV2 (k := 63) (s1 := 1) (s2 := 0) (as := []) (rest := []) kx_208_53 kp_208_286 (Or.inl rfl) rfl (tk_63 hT) ki_180 kcl_180 rfl rfl (by decide) (m_180 (d := d + 1) hT hI2) (kV (fun M33 hI33 fr33 v32p => ?_))
        have hFm33 := hFm2.call fr33 rfl
        have tr34 := (fr33 63 9 rfl)
        have tr35 := rg_63_9 hI33
        refine s_iload_n kx_208_56 rfl ?_
        have hk36 : M33 63 9 = v7 := ((fr33 63 9 rfl).trans v7e)
        exact s_iret kx_208_57 (Or.inl kq_208) ⟨_, _, rfl, rfl, hI33, hFm33, ⟨by omega, by omega, (show LXp M33 from v32p.2), (by omega), (by omega), (by unfold PRd; omega)⟩⟩
      · refine s_aload_n kx_208_36 rfl ?_
        refine s_iconst (v := 3) kx_208_37 (by decide) ?_
        refine s_aload_n kx_208_38 rfl ?_
        refine r_getI (k := 63) (f := 4) kx_208_39 kp_208_23 (tk_63 hT) kf_12_4 (fun _ => rfl) (rg_63_4 hI2) (fun v37 v37e v37a v37b => ?_)
        have v37z : M 63 4 = v37 := ((fr2 63 4 rfl)).symm.trans v37e
        refine s_callV2 (k := 63) (s1 := 3) (s2 := 0) (as := [(0, v37), (0, 3)]) (rest := []) kx_208_42 kp_208_263 (Or.inl rfl) rfl (tk_63 hT) ki_176 kcl_176 rfl rfl (by decide) (m_176 (d := d + 2) (kind := 3) (place := v37) hT hI2 (by omega)) (kV (fun M39 hI39 fr39 v38p => ?_))
        have hFm39 := hFm2.call fr39 rfl
        have tr40 := (fr39 63 3 rfl)
        have tr41 := (fr39 63 4 rfl)
        have tr42 := (fr39 63 5 rfl)
        have tr43 := rg_63_9 hI39
        refine s_aload_n kx_208_45 rfl ?_
        refine r_getI (k := 63) (f := 9) kx_208_46 kp_208_39 (tk_63 hT) kf_12_9 (fun _ => rfl) (rg_63_9 hI39) (fun v44 v44e v44a v44b => ?_)
        refine s_if_ne (t := 56) kx_208_49 (by decide) (fun hc45 => ?_) (fun hc45 => ?_)
        · refine s_iload_n kx_208_56 rfl ?_
          have hk46 : M39 63 4 = v37 := ((fr39 63 4 rfl).trans v37e)
          have hk47 : M39 63 9 = v44 := v44e
          exact s_iret kx_208_57 (Or.inl kq_208) ⟨_, _, rfl, rfl, hI39, hFm39, ⟨by omega, by omega, (LXp.fr (LXp.fr hX fr2 rfl) fr39 rfl), (by omega), (by omega), (by unfold PRd; omega)⟩⟩
        · refine s_aload_n kx_208_52 rfl ?_
          refine s_callV2 (k := 63) (s1 := 1) (s2 := 0) (as := []) (rest := []) kx_208_53 kp_208_286 (Or.inl rfl) rfl (tk_63 hT) ki_180 kcl_180 rfl rfl (by decide) (m_180 (d := d + 1) hT hI39) (kV (fun M49 hI49 fr49 v48p => ?_))
          have hFm49 := hFm39.call fr49 rfl
          have tr50 := (fr49 63 9 rfl)
          have tr51 := rg_63_9 hI49
          refine s_iload_n kx_208_56 rfl ?_
          have hk52 : M49 63 9 = v44 := ((fr49 63 9 rfl).trans v44e)
          exact s_iret kx_208_57 (Or.inl kq_208) ⟨_, _, rfl, rfl, hI49, hFm49, ⟨by omega, by omega, (show LXp M49 from v48p.2), (by omega), (by omega), (by unfold PRd; omega)⟩⟩
theorem kx_209_0 : x_code k_P 209 0 = some (.aload_n 0, 1) := by decide +kernel
theorem kx_209_1 : x_code k_P 209 1 = some (.iconst 0, 1) := by decide +kernel
theorem kx_209_2 : x_code k_P 209 2 = some (.invokevirtual 386, 3) := by decide +kernel
theorem kp_209_386 : x_pool k_P 209 386 = (2, 199, 1) := by decide +kernel
theorem kx_209_5 : x_code k_P 209 5 = some (.ifCond .ne 4, 3) := by decide +kernel
theorem kx_209_9 : x_code k_P 209 9 = some (.aload_n 0, 1) := by decide +kernel
theorem kx_209_10 : x_code k_P 209 10 = some (.iconst (-1), 1) := by decide +kernel
theorem kx_209_11 : x_code k_P 209 11 = some (.invokevirtual 407, 3) := by decide +kernel
theorem kp_209_407 : x_pool k_P 209 407 = (2, 208, 1) := by decide +kernel
theorem ki_208 : x_mci k_P 208 = 12 := by decide +kernel
theorem kcl_208 : x_maxL k_P 208 ≤ 60 ∧ 2 ≤ x_maxL k_P 208 := by decide +kernel
theorem kx_209_14 : x_code k_P 209 14 = some (.istore_n 1, 1) := by decide +kernel
theorem km_209_1 : 1 < x_maxL k_P 209 := by decide +kernel
theorem kx_209_15 : x_code k_P 209 15 = some (.aload_n 0, 1) := by decide +kernel
theorem kx_209_16 : x_code k_P 209 16 = some (.iload_n 1, 1) := by decide +kernel
theorem kx_209_17 : x_code k_P 209 17 = some (.invokevirtual 407, 3) := by decide +kernel
theorem kx_209_20 : x_code k_P 209 20 = some (.istore_n 2, 1) := by decide +kernel
theorem km_209_2 : 2 < x_maxL k_P 209 := by decide +kernel
theorem kx_209_21 : x_code k_P 209 21 = some (.aload_n 0, 1) := by decide +kernel
theorem kx_209_22 : x_code k_P 209 22 = some (.getfield 39, 3) := by decide +kernel
theorem kp_209_39 : x_pool k_P 209 39 = (1, 12, 9) := by decide +kernel
theorem kx_209_25 : x_code k_P 209 25 = some (.ifCond .le 4, 3) := by decide +kernel
theorem kx_209_29 : x_code k_P 209 29 = some (.aload_n 0, 1) := by decide +kernel
theorem kx_209_30 : x_code k_P 209 30 = some (.getfield 84, 3) := by decide +kernel
theorem kp_209_84 : x_pool k_P 209 84 = (1, 12, 24) := by decide +kernel
theorem kx_209_33 : x_code k_P 209 33 = some (.bipush 8, 2) := by decide +kernel
theorem kx_209_35 : x_code k_P 209 35 = some (.aload_n 0, 1) := by decide +kernel
theorem kx_209_36 : x_code k_P 209 36 = some (.getfield 121, 3) := by decide +kernel
theorem kp_209_121 : x_pool k_P 209 121 = (1, 12, 36) := by decide +kernel
theorem kx_209_39 : x_code k_P 209 39 = some (.imul, 1) := by decide +kernel
theorem kx_209_40 : x_code k_P 209 40 = some (.iload_n 1, 1) := by decide +kernel
theorem kx_209_41 : x_code k_P 209 41 = some (.iadd, 1) := by decide +kernel
theorem kx_209_42 : x_code k_P 209 42 = some (.iload_n 2, 1) := by decide +kernel
theorem kx_209_43 : x_code k_P 209 43 = some (.iastore, 1) := by decide +kernel
theorem kx_209_44 : x_code k_P 209 44 = some (.aload_n 0, 1) := by decide +kernel
theorem kx_209_45 : x_code k_P 209 45 = some (.getfield 84, 3) := by decide +kernel
theorem kx_209_48 : x_code k_P 209 48 = some (.bipush 8, 2) := by decide +kernel
theorem kx_209_50 : x_code k_P 209 50 = some (.aload_n 0, 1) := by decide +kernel
theorem kx_209_51 : x_code k_P 209 51 = some (.getfield 121, 3) := by decide +kernel
theorem kx_209_54 : x_code k_P 209 54 = some (.imul, 1) := by decide +kernel
theorem kx_209_55 : x_code k_P 209 55 = some (.iload_n 2, 1) := by decide +kernel
theorem kx_209_56 : x_code k_P 209 56 = some (.iadd, 1) := by decide +kernel
theorem kx_209_57 : x_code k_P 209 57 = some (.iload_n 1, 1) := by decide +kernel
theorem kx_209_58 : x_code k_P 209 58 = some (.iastore, 1) := by decide +kernel
theorem kx_209_59 : x_code k_P 209 59 = some (.return_, 1) := by decide +kernel
theorem kq_209 : x_retk k_P 209 = 0 := by decide +kernel
theorem kx_209_28 : x_code k_P 209 28 = some (.return_, 1) := by decide +kernel
theorem kx_209_8 : x_code k_P 209 8 = some (.return_, 1) := by decide +kernel
def fS_209_m : List (Nat × Nat) := [(63, 10), (63, 13), (63, 3), (63, 4), (63, 5), (63, 6), (63, 7), (63, 8), (63, 9), (74, 99999)]
theorem m_209 {xs : Nat → Int} {Ln d : Nat} {T : List cK} {M : cM} (hT : TT T) (hI : Rng M) (hX : LXp M) (p0 : M 63 4 + 1 ≤ M 63 5) : cC k_P xs Ln (d + 4) 209 [rf 63] (T, M) (qV T M fS_209_m (fun M1 => LXp M1 ∧ M 63 4 ≤ M1 63 4 ∧ M 63 9 ≤ M1 63 9 ∧ (PRd M M1))) := by
  show cP k_P xs Ln (d + 4) 209 0 [(0, rf 63)] [] (T, M) _
  have hFm : Fr fS_209_m M M := Fr.refl
  have h639 := rg_63_9 hI
  refine s_aload_n kx_209_0 rfl ?_
  refine s_iconst (v := 0) kx_209_1 (by decide) ?_
  refine s_callV2 (k := 63) (s1 := 2) (s2 := 0) (as := [(0, 0)]) (rest := []) kx_209_2 kp_209_386 (Or.inl rfl) rfl (tk_63 hT) ki_199 kcl_199 rfl rfl (by decide) (m_199 (d := d + 1) (full := 0) hT hI hX (by omega)) (kW (fun v1 M2 hI2 fr2 v1p => ?_))
  have hFm2 := hFm.call fr2 rfl
  have tr3 := rg_63_9 hI2
  refine s_if_ne (t := 9) kx_209_5 (by decide) (fun hc4 => ?_) (fun hc4 => ?_)
  · refine s_aload_n kx_209_9 rfl ?_
    refine s_iconst (v := (-1)) kx_209_10 (by decide) ?_
    refine s_callV2 (k := 63) (s1 := 2) (s2 := 0) (as := [(0, (-1))]) (rest := []) kx_209_11 kp_209_407 (Or.inl rfl) rfl (tk_63 hT) ki_208 kcl_208 rfl rfl (by decide) (m_208 (d := d) (but := (-1)) hT hI2 v1p.1) (kW (fun v5 M6 hI6 fr6 v5p => ?_))
    have hFm6 := hFm2.call fr6 rfl
    have tr7 := rg_63_9 hI6
    refine s_istore_n kx_209_14 km_209_1 rfl ?_
    refine s_aload_n kx_209_15 rfl ?_
    refine s_iload_n kx_209_16 rfl ?_
    refine s_callV2 (k := 63) (s1 := 2) (s2 := 0) (as := [(0, v5)]) (rest := []) kx_209_17 kp_209_407 (Or.inl rfl) rfl (tk_63 hT) ki_208 kcl_208 rfl rfl (by decide) (m_208 (d := d) (but := v5) hT hI6 v5p.2.2.1) (kW (fun v8 M9 hI9 fr9 v8p => ?_))
    have hFm9 := hFm6.call fr9 rfl
    have tr10 := rg_63_9 hI9
    refine s_istore_n kx_209_20 km_209_2 rfl ?_
    refine s_aload_n kx_209_21 rfl ?_
    refine r_getI (k := 63) (f := 9) kx_209_22 kp_209_39 (tk_63 hT) kf_12_9 (fun _ => rfl) (rg_63_9 hI9) (fun v11 v11e v11a v11b => ?_)
    refine s_if_le (t := 29) kx_209_25 (by decide) (fun hc12 => ?_) (fun hc12 => ?_)
    · refine s_aload_n kx_209_29 rfl ?_
      refine r_getR (k := 63) (f := 24) (k2 := 74) kx_209_30 kp_209_84 (tk_63 hT) kf_12_24 (by decide) (rq_63_24 hI9) ?_
      refine s_bipush (v := 8) kx_209_33 (by decide) ?_
      refine s_aload_n kx_209_35 rfl ?_
      refine r_getI (k := 63) (f := 36) kx_209_36 kp_209_121 (tk_63 hT) kf_12_36 (fun _ => rfl) (rg_63_36 hI9) (fun v13 v13e v13a v13b => ?_)
      have v13z : M 63 36 = v13 := (((fr9 63 36 rfl).trans ((fr6 63 36 rfl).trans (fr2 63 36 rfl)))).symm.trans v13e
      refine r_mul kx_209_39 ⟨by omega, by omega⟩ ?_
      refine s_iload_n kx_209_40 rfl ?_
      refine r_add kx_209_41 ⟨by omega, by omega⟩ ?_
      refine s_iload_n kx_209_42 rfl ?_
      refine r_ast (k := 74) kx_209_43 (tk_74 hT) ⟨by omega, by omega⟩ hI9 (ru_74 (by omega) (by omega)) (fun M14 hI14 u14 => ?_)
      have hFm14 := hFm9.up u14 rfl
      have tr15 := (u14.2 63 3 (by omega))
      have tr16 := (u14.2 63 4 (by omega))
      have tr17 := (u14.2 63 5 (by omega))
      have tr18 := (u14.2 63 9 (by omega))
      refine s_aload_n kx_209_44 rfl ?_
      refine r_getR (k := 63) (f := 24) (k2 := 74) kx_209_45 kp_209_84 (tk_63 hT) kf_12_24 (by decide) (rq_63_24 hI14) ?_
      refine s_bipush (v := 8) kx_209_48 (by decide) ?_
      refine s_aload_n kx_209_50 rfl ?_
      refine r_getK (k := 63) (f := 36) kx_209_51 kp_209_121 (tk_63 hT) kf_12_36 (fun _ => rfl) ((u14.2 63 36 (by omega)).trans v13e) ?_
      refine r_mul kx_209_54 ⟨by omega, by omega⟩ ?_
      refine s_iload_n kx_209_55 rfl ?_
      refine r_add kx_209_56 ⟨by omega, by omega⟩ ?_
      refine s_iload_n kx_209_57 rfl ?_
      refine r_ast (k := 74) kx_209_58 (tk_74 hT) ⟨by omega, by omega⟩ hI14 (ru_74 (by omega) (by omega)) (fun M19 hI19 u19 => ?_)
      have hFm19 := hFm14.up u19 rfl
      have tr20 := (u19.2 63 3 (by omega))
      have tr21 := (u19.2 63 4 (by omega))
      have tr22 := (u19.2 63 5 (by omega))
      have tr23 := (u19.2 63 9 (by omega))
      have hk24 : M19 63 9 = v11 := ((u19.2 63 9 (by omega)).trans ((u14.2 63 9 (by omega)).trans v11e))
      exact s_vret kx_209_59 kq_209 ⟨_, rfl, rfl, hI19, hFm19, ⟨(LXp.up (LXp.up v8p.2.2.1 u14 (Or.inl (by decide))) u19 (Or.inl (by decide))), (by omega), (by omega), (by unfold PRd; omega)⟩⟩
    · have hk25 : M9 63 9 = v11 := v11e
      exact s_vret kx_209_28 kq_209 ⟨_, rfl, rfl, hI9, hFm9, ⟨v8p.2.2.1, (by omega), (by omega), (by unfold PRd; omega)⟩⟩
  · exact s_vret kx_209_8 kq_209 ⟨_, rfl, rfl, hI2, hFm2, ⟨v1p.1, (by omega), (by omega), (by unfold PRd; omega)⟩⟩
theorem kx_212_0 : x_code k_P 212 0 = some (.aload_n 0, 1) := by decide +kernel
theorem kx_212_1 : x_code k_P 212 1 = some (.iconst 0, 1) := by decide +kernel
theorem kx_212_2 : x_code k_P 212 2 = some (.invokevirtual 386, 3) := by decide +kernel
theorem kp_212_386 : x_pool k_P 212 386 = (2, 199, 1) := by decide +kernel
theorem kx_212_5 : x_code k_P 212 5 = some (.ifCond .ne 4, 3) := by decide +kernel
theorem kx_212_9 : x_code k_P 212 9 = some (.aload_n 0, 1) := by decide +kernel
theorem kx_212_10 : x_code k_P 212 10 = some (.iconst 0, 1) := by decide +kernel
theorem kx_212_11 : x_code k_P 212 11 = some (.bipush 100, 2) := by decide +kernel
theorem kx_212_13 : x_code k_P 212 13 = some (.invokevirtual 398, 3) := by decide +kernel
theorem kp_212_398 : x_pool k_P 212 398 = (2, 188, 2) := by decide +kernel
theorem kx_212_16 : x_code k_P 212 16 = some (.istore_n 1, 1) := by decide +kernel
theorem km_212_1 : 1 < x_maxL k_P 212 := by decide +kernel
theorem kx_212_17 : x_code k_P 212 17 = some (.aload_n 0, 1) := by decide +kernel
theorem kx_212_18 : x_code k_P 212 18 = some (.getfield 39, 3) := by decide +kernel
theorem kp_212_39 : x_pool k_P 212 39 = (1, 12, 9) := by decide +kernel
theorem kx_212_21 : x_code k_P 212 21 = some (.ifCond .ne 13, 3) := by decide +kernel
theorem kx_212_34 : x_code k_P 212 34 = some (.return_, 1) := by decide +kernel
theorem kq_212 : x_retk k_P 212 = 0 := by decide +kernel
theorem kx_212_24 : x_code k_P 212 24 = some (.aload_n 0, 1) := by decide +kernel
theorem kx_212_25 : x_code k_P 212 25 = some (.getfield 99, 3) := by decide +kernel
theorem kp_212_99 : x_pool k_P 212 99 = (1, 12, 29) := by decide +kernel
theorem kx_212_28 : x_code k_P 212 28 = some (.aload_n 0, 1) := by decide +kernel
theorem kx_212_29 : x_code k_P 212 29 = some (.getfield 121, 3) := by decide +kernel
theorem kp_212_121 : x_pool k_P 212 121 = (1, 12, 36) := by decide +kernel
theorem kx_212_32 : x_code k_P 212 32 = some (.iload_n 1, 1) := by decide +kernel
theorem kx_212_33 : x_code k_P 212 33 = some (.iastore, 1) := by decide +kernel
theorem kx_212_8 : x_code k_P 212 8 = some (.return_, 1) := by decide +kernel
def fS_212_m : List (Nat × Nat) := [(63, 10), (63, 13), (63, 3), (63, 4), (63, 5), (63, 6), (63, 7), (63, 8), (63, 9), (79, 99999)]
theorem m_212 {xs : Nat → Int} {Ln d : Nat} {T : List cK} {M : cM} (hT : TT T) (hI : Rng M) (hX : LXp M) (p0 : M 63 4 + 1 ≤ M 63 5) : cC k_P xs Ln (d + 3) 212 [rf 63] (T, M) (qV T M fS_212_m (fun M1 => LXp M1 ∧ M 63 4 ≤ M1 63 4 ∧ M 63 9 ≤ M1 63 9 ∧ (PRd M M1))) := by
  show cP k_P xs Ln (d + 3) 212 0 [(0, rf 63)] [] (T, M) _
  have hFm : Fr fS_212_m M M := Fr.refl
  have h639 := rg_63_9 hI
  refine s_aload_n kx_212_0 rfl ?_
  refine s_iconst (v := 0) kx_212_1 (by decide) ?_
  refine s_callV2 (k := 63) (s1 := 2) (s2 := 0) (as := [(0, 0)]) (rest := []) kx_212_2 kp_212_386 (Or.inl rfl) rfl (tk_63 hT) ki_199 kcl_199 rfl rfl (by decide) (m_199 (d := d) (full := 0) hT hI hX (by omega)) (kW (fun v1 M2 hI2 fr2 v1p => ?_))
  have hFm2 := hFm.call fr2 rfl
  have tr3 := rg_63_9 hI2
  refine s_if_ne (t := 9) kx_212_5 (by decide) (fun hc4 => ?_) (fun hc4 => ?_)
  · refine s_aload_n kx_212_9 rfl ?_
    refine s_iconst (v := 0) kx_212_10 (by decide) ?_
    refine s_bipush (v := 100) kx_212_11 (by decide) ?_
    refine s_callV2 (k := 63) (s1 := 3) (s2 := 0) (as := [(0, 100), (0, 0)]) (rest := []) kx_212_13 kp_212_398 (Or.inl rfl) rfl (tk_63 hT) ki_188 kcl_188 rfl rfl (by decide) (m_188 (d := d) (low := 0) (high := 100) hT hI2 v1p.1) (kW (fun v5 M6 hI6 fr6 v5p => ?_))
    have hFm6 := hFm2.call fr6 rfl
    have tr7 := rg_63_9 hI6
    refine s_istore_n kx_212_16 km_212_1 rfl ?_
    refine s_aload_n kx_212_17 rfl ?_
    refine r_getI (k := 63) (f := 9) kx_212_18 kp_212_39 (tk_63 hT) kf_12_9 (fun _ => rfl) (rg_63_9 hI6) (fun v8 v8e v8a v8b => ?_)
    refine s_if_ne (t := 34) kx_212_21 (by decide) (fun hc9 => ?_) (fun hc9 => ?_)
    · have hk10 : M6 63 9 = v8 := v8e
      exact s_vret kx_212_34 kq_212 ⟨_, rfl, rfl, hI6, hFm6, ⟨v5p.1, (by omega), (by omega), (by unfold PRd; omega)⟩⟩
    · refine s_aload_n kx_212_24 rfl ?_
      refine r_getR (k := 63) (f := 29) (k2 := 79) kx_212_25 kp_212_99 (tk_63 hT) kf_12_29 (by decide) (rq_63_29 hI6) ?_
      refine s_aload_n kx_212_28 rfl ?_
      refine r_getI (k := 63) (f := 36) kx_212_29 kp_212_121 (tk_63 hT) kf_12_36 (fun _ => rfl) (rg_63_36 hI6) (fun v11 v11e v11a v11b => ?_)
      have v11z : M 63 36 = v11 := (((fr6 63 36 rfl).trans (fr2 63 36 rfl))).symm.trans v11e
      refine s_iload_n kx_212_32 rfl ?_
      refine r_ast (k := 79) kx_212_33 (tk_79 hT) ⟨by omega, by omega⟩ hI6 ru_79 (fun M12 hI12 u12 => ?_)
      have hFm12 := hFm6.up u12 rfl
      have tr13 := (u12.2 63 3 (by omega))
      have tr14 := (u12.2 63 4 (by omega))
      have tr15 := (u12.2 63 5 (by omega))
      have tr16 := (u12.2 63 9 (by omega))
      have hk17 : M12 63 9 = v8 := ((u12.2 63 9 (by omega)).trans v8e)
      exact s_vret kx_212_34 kq_212 ⟨_, rfl, rfl, hI12, hFm12, ⟨(LXp.up v5p.1 u12 (Or.inl (by decide))), (by omega), (by omega), (by unfold PRd; omega)⟩⟩
  · exact s_vret kx_212_8 kq_212 ⟨_, rfl, rfl, hI2, hFm2, ⟨v1p.1, (by omega), (by omega), (by unfold PRd; omega)⟩⟩
theorem kx_213_0 : x_code k_P 213 0 = some (.aload_n 0, 1) := by decide +kernel
theorem kx_213_1 : x_code k_P 213 1 = some (.iconst 0, 1) := by decide +kernel
theorem kx_213_2 : x_code k_P 213 2 = some (.invokevirtual 386, 3) := by decide +kernel
theorem kp_213_386 : x_pool k_P 213 386 = (2, 199, 1) := by decide +kernel
theorem kx_213_5 : x_code k_P 213 5 = some (.ifCond .ne 4, 3) := by decide +kernel
theorem kx_213_9 : x_code k_P 213 9 = some (.aload_n 0, 1) := by decide +kernel
theorem kx_213_10 : x_code k_P 213 10 = some (.iconst 0, 1) := by decide +kernel
theorem kx_213_11 : x_code k_P 213 11 = some (.invokevirtual 401, 3) := by decide +kernel
theorem kp_213_401 : x_pool k_P 213 401 = (2, 203, 1) := by decide +kernel
theorem kx_213_14 : x_code k_P 213 14 = some (.istore_n 1, 1) := by decide +kernel
theorem km_213_1 : 1 < x_maxL k_P 213 := by decide +kernel
theorem kx_213_15 : x_code k_P 213 15 = some (.aload_n 0, 1) := by decide +kernel
theorem kx_213_16 : x_code k_P 213 16 = some (.getfield 39, 3) := by decide +kernel
theorem kp_213_39 : x_pool k_P 213 39 = (1, 12, 9) := by decide +kernel
theorem kx_213_19 : x_code k_P 213 19 = some (.ifCond .ne 13, 3) := by decide +kernel
theorem kx_213_32 : x_code k_P 213 32 = some (.return_, 1) := by decide +kernel
theorem kq_213 : x_retk k_P 213 = 0 := by decide +kernel
theorem kx_213_22 : x_code k_P 213 22 = some (.aload_n 0, 1) := by decide +kernel
theorem kx_213_23 : x_code k_P 213 23 = some (.getfield 102, 3) := by decide +kernel
theorem kp_213_102 : x_pool k_P 213 102 = (1, 12, 30) := by decide +kernel
theorem kx_213_26 : x_code k_P 213 26 = some (.aload_n 0, 1) := by decide +kernel
theorem kx_213_27 : x_code k_P 213 27 = some (.getfield 121, 3) := by decide +kernel
theorem kp_213_121 : x_pool k_P 213 121 = (1, 12, 36) := by decide +kernel
theorem kx_213_30 : x_code k_P 213 30 = some (.iload_n 1, 1) := by decide +kernel
theorem kx_213_31 : x_code k_P 213 31 = some (.iastore, 1) := by decide +kernel
theorem kx_213_8 : x_code k_P 213 8 = some (.return_, 1) := by decide +kernel
def fS_213_m : List (Nat × Nat) := [(63, 10), (63, 13), (63, 3), (63, 4), (63, 5), (63, 6), (63, 7), (63, 8), (63, 9), (80, 99999)]
theorem m_213 {xs : Nat → Int} {Ln d : Nat} {T : List cK} {M : cM} (hT : TT T) (hI : Rng M) (hX : LXp M) (p0 : M 63 4 + 1 ≤ M 63 5) : cC k_P xs Ln (d + 4) 213 [rf 63] (T, M) (qV T M fS_213_m (fun M1 => LXp M1 ∧ M 63 4 ≤ M1 63 4 ∧ M 63 9 ≤ M1 63 9 ∧ (PRd M M1))) := by
  show cP k_P xs Ln (d + 4) 213 0 [(0, rf 63)] [] (T, M) _
  have hFm : Fr fS_213_m M M := Fr.refl
  have h639 := rg_63_9 hI
  refine s_aload_n kx_213_0 rfl ?_
  refine s_iconst (v := 0) kx_213_1 (by decide) ?_
  refine s_callV2 (k := 63) (s1 := 2) (s2 := 0) (as := [(0, 0)]) (rest := []) kx_213_2 kp_213_386 (Or.inl rfl) rfl (tk_63 hT) ki_199 kcl_199 rfl rfl (by decide) (m_199 (d := d + 1) (full := 0) hT hI hX (by omega)) (kW (fun v1 M2 hI2 fr2 v1p => ?_))
  have hFm2 := hFm.call fr2 rfl
  have tr3 := rg_63_9 hI2
  refine s_if_ne (t := 9) kx_213_5 (by decide) (fun hc4 => ?_) (fun hc4 => ?_)
  · refine s_aload_n kx_213_9 rfl ?_
    refine s_iconst (v := 0) kx_213_10 (by decide) ?_
    refine s_callV2 (k := 63) (s1 := 2) (s2 := 0) (as := [(0, 0)]) (rest := []) kx_213_11 kp_213_401 (Or.inl rfl) rfl (tk_63 hT) ki_203 kcl_203 rfl rfl (by decide) (m_203 (d := d) (kind := 0) hT hI2 v1p.1) (kW (fun v5 M6 hI6 fr6 v5p => ?_))
    have hFm6 := hFm2.call fr6 rfl
    have tr7 := rg_63_9 hI6
    refine s_istore_n kx_213_14 km_213_1 rfl ?_
    refine s_aload_n kx_213_15 rfl ?_
    refine r_getI (k := 63) (f := 9) kx_213_16 kp_213_39 (tk_63 hT) kf_12_9 (fun _ => rfl) (rg_63_9 hI6) (fun v8 v8e v8a v8b => ?_)
    refine s_if_ne (t := 32) kx_213_19 (by decide) (fun hc9 => ?_) (fun hc9 => ?_)
    · have hk10 : M6 63 9 = v8 := v8e
      exact s_vret kx_213_32 kq_213 ⟨_, rfl, rfl, hI6, hFm6, ⟨v5p.2.2.1, (by omega), (by omega), (by unfold PRd; omega)⟩⟩
    · refine s_aload_n kx_213_22 rfl ?_
      refine r_getR (k := 63) (f := 30) (k2 := 80) kx_213_23 kp_213_102 (tk_63 hT) kf_12_30 (by decide) (rq_63_30 hI6) ?_
      refine s_aload_n kx_213_26 rfl ?_
      refine r_getI (k := 63) (f := 36) kx_213_27 kp_213_121 (tk_63 hT) kf_12_36 (fun _ => rfl) (rg_63_36 hI6) (fun v11 v11e v11a v11b => ?_)
      have v11z : M 63 36 = v11 := (((fr6 63 36 rfl).trans (fr2 63 36 rfl))).symm.trans v11e
      refine s_iload_n kx_213_30 rfl ?_
      refine r_ast (k := 80) kx_213_31 (tk_80 hT) ⟨by omega, by omega⟩ hI6 ru_80 (fun M12 hI12 u12 => ?_)
      have hFm12 := hFm6.up u12 rfl
      have tr13 := (u12.2 63 3 (by omega))
      have tr14 := (u12.2 63 4 (by omega))
      have tr15 := (u12.2 63 5 (by omega))
      have tr16 := (u12.2 63 9 (by omega))
      have hk17 : M12 63 9 = v8 := ((u12.2 63 9 (by omega)).trans v8e)
      exact s_vret kx_213_32 kq_213 ⟨_, rfl, rfl, hI12, hFm12, ⟨(LXp.up v5p.2.2.1 u12 (Or.inl (by decide))), (by omega), (by omega), (by unfold PRd; omega)⟩⟩
  · exact s_vret kx_213_8 kq_213 ⟨_, rfl, rfl, hI2, hFm2, ⟨v1p.1, (by omega), (by omega), (by unfold PRd; omega)⟩⟩
theorem kx_215_0 : x_code k_P 215 0 = some (.aload_n 0, 1) := by decide +kernel
theorem kx_215_1 : x_code k_P 215 1 = some (.invokevirtual 280, 3) := by decide +kernel
theorem kp_215_280 : x_pool k_P 215 280 = (2, 179, 0) := by decide +kernel
theorem kx_215_4 : x_code k_P 215 4 = some (.aload_n 0, 1) := by decide +kernel
theorem kx_215_5 : x_code k_P 215 5 = some (.getfield 39, 3) := by decide +kernel
theorem kp_215_39 : x_pool k_P 215 39 = (1, 12, 9) := by decide +kernel
theorem kx_215_8 : x_code k_P 215 8 = some (.ifCond .le 4, 3) := by decide +kernel
theorem kx_215_12 : x_code k_P 215 12 = some (.aload_n 0, 1) := by decide +kernel
theorem kx_215_13 : x_code k_P 215 13 = some (.getfield 26, 3) := by decide +kernel
theorem kp_215_26 : x_pool k_P 215 26 = (1, 12, 5) := by decide +kernel
theorem kx_215_16 : x_code k_P 215 16 = some (.istore_n 2, 1) := by decide +kernel
theorem km_215_2 : 2 < x_maxL k_P 215 := by decide +kernel
theorem kx_215_17 : x_code k_P 215 17 = some (.iload_n 2, 1) := by decide +kernel
theorem kx_215_18 : x_code k_P 215 18 = some (.aload_n 0, 1) := by decide +kernel
theorem kx_215_19 : x_code k_P 215 19 = some (.getfield 17, 3) := by decide +kernel
theorem kp_215_17 : x_pool k_P 215 17 = (1, 12, 2) := by decide +kernel
theorem kx_215_22 : x_code k_P 215 22 = some (.if_icmp .ge 31, 3) := by decide +kernel
theorem kx_215_53 : x_code k_P 215 53 = some (.aload_n 0, 1) := by decide +kernel
theorem kx_215_54 : x_code k_P 215 54 = some (.bipush 59, 2) := by decide +kernel
theorem kx_215_56 : x_code k_P 215 56 = some (.invokevirtual 283, 3) := by decide +kernel
theorem kp_215_283 : x_pool k_P 215 283 = (2, 181, 1) := by decide +kernel
theorem kx_215_59 : x_code k_P 215 59 = some (.ifCond .eq 24, 3) := by decide +kernel
theorem kx_215_83 : x_code k_P 215 83 = some (.aload_n 0, 1) := by decide +kernel
theorem kx_215_84 : x_code k_P 215 84 = some (.bipush 59, 2) := by decide +kernel
theorem kx_215_86 : x_code k_P 215 86 = some (.invokevirtual 438, 3) := by decide +kernel
theorem kp_215_438 : x_pool k_P 215 438 = (2, 183, 1) := by decide +kernel
theorem ki_183 : x_mci k_P 183 = 12 := by decide +kernel
theorem kcl_183 : x_maxL k_P 183 ≤ 60 ∧ 2 ≤ x_maxL k_P 183 := by decide +kernel
theorem kx_215_89 : x_code k_P 215 89 = some (.return_, 1) := by decide +kernel
theorem kq_215 : x_retk k_P 215 = 0 := by decide +kernel
theorem kx_215_62 : x_code k_P 215 62 = some (.iload_n 1, 1) := by decide +kernel
theorem kx_215_63 : x_code k_P 215 63 = some (.bipush 80, 2) := by decide +kernel
theorem kx_215_65 : x_code k_P 215 65 = some (.if_icmp .ne 18, 3) := by decide +kernel
theorem kx_215_68 : x_code k_P 215 68 = some (.iload_n 2, 1) := by decide +kernel
theorem kx_215_69 : x_code k_P 215 69 = some (.aload_n 0, 1) := by decide +kernel
theorem kx_215_70 : x_code k_P 215 70 = some (.getfield 17, 3) := by decide +kernel
theorem kx_215_73 : x_code k_P 215 73 = some (.if_icmp .ge 10, 3) := by decide +kernel
theorem kx_215_76 : x_code k_P 215 76 = some (.aload_n 0, 1) := by decide +kernel
theorem kx_215_77 : x_code k_P 215 77 = some (.bipush 6, 2) := by decide +kernel
theorem kx_215_79 : x_code k_P 215 79 = some (.iload_n 2, 1) := by decide +kernel
theorem kx_215_80 : x_code k_P 215 80 = some (.invokevirtual 263, 3) := by decide +kernel
theorem kp_215_263 : x_pool k_P 215 263 = (2, 176, 2) := by decide +kernel
theorem kx_215_25 : x_code k_P 215 25 = some (.aload_n 0, 1) := by decide +kernel
theorem kx_215_26 : x_code k_P 215 26 = some (.getfield 7, 3) := by decide +kernel
theorem kp_215_7 : x_pool k_P 215 7 = (1, 12, 0) := by decide +kernel
theorem kx_215_29 : x_code k_P 215 29 = some (.iload_n 2, 1) := by decide +kernel
theorem kx_215_30 : x_code k_P 215 30 = some (.iaload, 1) := by decide +kernel
theorem kx_215_31 : x_code k_P 215 31 = some (.bipush 32, 2) := by decide +kernel
theorem kx_215_33 : x_code k_P 215 33 = some (.if_icmp .eq 14, 3) := by decide +kernel
theorem kx_215_47 : x_code k_P 215 47 = some (.iinc 2 1, 3) := by decide +kernel
theorem kx_215_50 : x_code k_P 215 50 = some (.goto (-33), 3) := by decide +kernel
theorem kx_215_36 : x_code k_P 215 36 = some (.aload_n 0, 1) := by decide +kernel
theorem kx_215_37 : x_code k_P 215 37 = some (.getfield 7, 3) := by decide +kernel
theorem kx_215_40 : x_code k_P 215 40 = some (.iload_n 2, 1) := by decide +kernel
theorem kx_215_41 : x_code k_P 215 41 = some (.iaload, 1) := by decide +kernel
theorem kx_215_42 : x_code k_P 215 42 = some (.bipush 10, 2) := by decide +kernel
theorem kx_215_44 : x_code k_P 215 44 = some (.if_icmp .ne 9, 3) := by decide +kernel
theorem kx_215_11 : x_code k_P 215 11 = some (.return_, 1) := by decide +kernel
def fS_215_m : List (Nat × Nat) := [(63, 10), (63, 13), (63, 3), (63, 4), (63, 5), (63, 6), (63, 7), (63, 8), (63, 9)]
def fS_215_l17 : List (Nat × Nat) := []
theorem m_215 {xs : Nat → Int} {Ln d : Nat} {T : List cK} {M : cM} (hT : TT T) (hI : Rng M) {n : Int} (hX : LXp M) : cC k_P xs Ln (d + 3) 215 [rf 63, (0, n)] (T, M) (qV T M fS_215_m (fun M1 => LXp M1 ∧ M 63 4 ≤ M1 63 4 ∧ M 63 9 ≤ M1 63 9 ∧ (PRd M M1))) := by
  show cP k_P xs Ln (d + 3) 215 0 [(0, rf 63), (1, (0, n))] [] (T, M) _
  have hFm : Fr fS_215_m M M := Fr.refl
  have h639 := rg_63_9 hI
  have ⟨lx1, lx2⟩ := hX
  refine s_aload_n kx_215_0 rfl ?_
  refine s_callV2 (k := 63) (s1 := 1) (s2 := 0) (as := []) (rest := []) kx_215_1 kp_215_280 (Or.inl rfl) rfl (tk_63 hT) ki_179 kcl_179 rfl rfl (by decide) (m_179 (d := d + 1) hT hI) (kV (fun M2 hI2 fr2 v1p => ?_))
  have hFm2 := hFm.call fr2 rfl
  have tr3 := (fr2 63 3 rfl)
  have tr4 := (fr2 63 4 rfl)
  have tr5 := (fr2 63 5 rfl)
  have tr6 := rg_63_9 hI2
  refine s_aload_n kx_215_4 rfl ?_
  refine r_getI (k := 63) (f := 9) kx_215_5 kp_215_39 (tk_63 hT) kf_12_9 (fun _ => rfl) (rg_63_9 hI2) (fun v7 v7e v7a v7b => ?_)
  refine s_if_le (t := 12) kx_215_8 (by decide) (fun hc8 => ?_) (fun hc8 => ?_)
  · refine s_aload_n kx_215_12 rfl ?_
    refine r_getI (k := 63) (f := 5) kx_215_13 kp_215_26 (tk_63 hT) kf_12_5 (fun _ => rfl) (rg_63_5 hI2) (fun v9 v9e v9a v9b => ?_)
    have v9z : M 63 5 = v9 := ((fr2 63 5 rfl)).symm.trans v9e
    refine s_istore_n kx_215_16 km_215_2 rfl ?_
    have key11 : ∀ n12 : Nat, ∀ (x2_10 : Int), (0 ≤ x2_10) → (2147483647 - x2_10).toNat < n12 → cP k_P xs Ln (d + 3) 215 17 [(0, rf 63), (1, (0, n)), (2, (0, x2_10))] [] (T, M2) (qV T M fS_215_m (fun M1 => LXp M1 ∧ M 63 4 ≤ M1 63 4 ∧ M 63 9 ≤ M1 63 9 ∧ (PRd M M1))) := by
      intro n12
      induction n12 with
      | zero => intro x2_10 i13 hm14; exact absurd hm14 (Nat.not_lt_zero _)
      | succ n12 ih15 =>
        intro x2_10 i13 hm14
        refine s_iload_n kx_215_17 rfl ?_
        refine s_aload_n kx_215_18 rfl ?_
        refine r_getI (k := 63) (f := 2) kx_215_19 kp_215_17 (tk_63 hT) kf_12_2 (fun _ => rfl) (rg_63_2 hI2) (fun v16 v16e v16a v16b => ?_)
        have v16z : M 63 2 = v16 := ((fr2 63 2 rfl)).symm.trans v16e
        refine s_icmp_ge (t := 53) kx_215_22 (by decide) (fun hc17 => ?_) (fun hc17 => ?_)
        · refine s_aload_n kx_215_53 rfl ?_
          refine s_bipush (v := 59) kx_215_54 (by decide) ?_
          refine s_callV2 (k := 63) (s1 := 2) (s2 := 0) (as := [(0, 59)]) (rest := []) kx_215_56 kp_215_283 (Or.inl rfl) rfl (tk_63 hT) ki_181 kcl_181 rfl rfl (by decide) (m_181 (d := d + 2) (c := 59) hT hI2) (kF (fun v18 v18p => ?_))
          refine s_if_eq (t := 83) kx_215_59 (by decide) (fun hc19 => ?_) (fun hc19 => ?_)
          · replace v18p := v18p.resolve_left (by omega)
            refine s_aload_n kx_215_83 rfl ?_
            refine s_bipush (v := 59) kx_215_84 (by decide) ?_
            refine s_callV2 (k := 63) (s1 := 2) (s2 := 0) (as := [(0, 59)]) (rest := []) kx_215_86 kp_215_438 (Or.inl rfl) rfl (tk_63 hT) ki_183 kcl_183 rfl rfl (by decide) (m_183 (d := d) (c := 59) hT hI2 (LXp.fr hX fr2 rfl)) (kV (fun M21 hI21 fr21 v20p => ?_))
            have hFm21 := hFm2.call fr21 rfl
            have tr22 := rg_63_9 hI21
            exact s_vret kx_215_89 kq_215 ⟨_, rfl, rfl, hI21, hFm21, ⟨v20p.1, (by omega), (by omega), (by unfold PRd; first | omega | (have h9 := v20p.2.2.2; unfold PRd at h9; omega))⟩⟩
          · replace v18p := v18p.resolve_right (by omega)
            refine s_iload_n kx_215_62 rfl ?_
            refine s_bipush (v := 80) kx_215_63 (by decide) ?_
            refine s_icmp_ne (t := 83) kx_215_65 (by decide) (fun hc23 => ?_) (fun hc23 => ?_)
            · refine s_aload_n kx_215_83 rfl ?_
              refine s_bipush (v := 59) kx_215_84 (by decide) ?_
              refine s_callV2 (k := 63) (s1 := 2) (s2 := 0) (as := [(0, 59)]) (rest := []) kx_215_86 kp_215_438 (Or.inl rfl) rfl (tk_63 hT) ki_183 kcl_183 rfl rfl (by decide) (m_183 (d := d) (c := 59) hT hI2 (LXp.fr hX fr2 rfl)) (kV (fun M25 hI25 fr25 v24p => ?_))
              have hFm25 := hFm2.call fr25 rfl
              have tr26 := rg_63_9 hI25
              exact s_vret kx_215_89 kq_215 ⟨_, rfl, rfl, hI25, hFm25, ⟨v24p.1, (by omega), (by omega), (by unfold PRd; first | omega | (have h9 := v24p.2.2.2; unfold PRd at h9; omega))⟩⟩
            · refine s_iload_n kx_215_68 rfl ?_
              refine s_aload_n kx_215_69 rfl ?_
              refine r_getK (k := 63) (f := 2) kx_215_70 kp_215_17 (tk_63 hT) kf_12_2 (fun _ => rfl) v16e ?_
              refine s_icmp_ge (t := 83) kx_215_73 (by decide) (fun hc27 => ?_) (fun hc27 => ?_)
              · refine s_aload_n kx_215_83 rfl ?_
                refine s_bipush (v := 59) kx_215_84 (by decide) ?_
                refine s_callV2 (k := 63) (s1 := 2) (s2 := 0) (as := [(0, 59)]) (rest := []) kx_215_86 kp_215_438 (Or.inl rfl) rfl (tk_63 hT) ki_183 kcl_183 rfl rfl (by decide) (m_183 (d := d) (c := 59) hT hI2 (LXp.fr hX fr2 rfl)) (kV (fun M29 hI29 fr29 v28p => ?_))
                have hFm29 := hFm2.call fr29 rfl
                have tr30 := rg_63_9 hI29
                exact s_vret kx_215_89 kq_215 ⟨_, rfl, rfl, hI29, hFm29, ⟨v28p.1, (by omega), (by omega), (by unfold PRd; first | omega | (have h9 := v28p.2.2.2; unfold PRd at h9; omega))⟩⟩
              · refine s_aload_n kx_215_76 rfl ?_
                refine s_bipush (v := 6) kx_215_77 (by decide) ?_
                refine s_iload_n kx_215_79 rfl ?_
                refine s_callV2 (k := 63) (s1 := 3) (s2 := 0) (as := [(0, x2_10), (0, 6)]) (rest := []) kx_215_80 kp_215_263 (Or.inl rfl) rfl (tk_63 hT) ki_176 kcl_176 rfl rfl (by decide) (m_176 (d := d + 2) (kind := 6) (place := x2_10) hT hI2 (by omega)) (kV (fun M32 hI32 fr32 v31p => ?_))
                have hFm32 := hFm2.call fr32 rfl
                have tr33 := (fr32 63 3 rfl)
                have tr34 := (fr32 63 4 rfl)
                have tr35 := (fr32 63 5 rfl)
                have tr36 := rg_63_9 hI32
                refine s_aload_n kx_215_83 rfl ?_
                refine s_bipush (v := 59) kx_215_84 (by decide) ?_
                refine s_callV2 (k := 63) (s1 := 2) (s2 := 0) (as := [(0, 59)]) (rest := []) kx_215_86 kp_215_438 (Or.inl rfl) rfl (tk_63 hT) ki_183 kcl_183 rfl rfl (by decide) (m_183 (d := d) (c := 59) hT hI32 (LXp.fr (LXp.fr hX fr2 rfl) fr32 rfl)) (kV (fun M38 hI38 fr38 v37p => ?_))
                have hFm38 := hFm32.call fr38 rfl
                have tr39 := rg_63_9 hI38
                exact s_vret kx_215_89 kq_215 ⟨_, rfl, rfl, hI38, hFm38, ⟨v37p.1, (by omega), (by omega), (by unfold PRd; first | omega | (have h9 := v37p.2.2.2; unfold PRd at h9; omega))⟩⟩
        · refine s_aload_n kx_215_25 rfl ?_
          refine r_getR (k := 63) (f := 0) (k2 := 64) kx_215_26 kp_215_7 (tk_63 hT) kf_12_0 (by decide) (rq_63_0 hI2) ?_
          refine s_iload_n kx_215_29 rfl ?_
          refine r_ald (k := 64) kx_215_30 (tk_64 hT) ⟨by omega, by omega⟩ (rg_64 hI2) (fun v40 v40e v40a v40b => ?_)
          refine s_bipush (v := 32) kx_215_31 (by decide) ?_
          refine s_icmp_eq (t := 47) kx_215_33 (by decide) (fun hc41 => ?_) (fun hc41 => ?_)
          · refine r_iinc kx_215_47 rfl km_215_2 (by decide) ⟨by omega, by omega⟩ rfl ?_
            refine s_goto (t := 17) kx_215_50 (by decide) ?_
            exact cP.wk (lS1 rfl (lS1 rfl (lS1 rfl lS0))) (ih15 (x2_10 + 1) (by omega) (by omega))
          · refine s_aload_n kx_215_36 rfl ?_
            refine r_getR (k := 63) (f := 0) (k2 := 64) kx_215_37 kp_215_7 (tk_63 hT) kf_12_0 (by decide) (rq_63_0 hI2) ?_
            refine s_iload_n kx_215_40 rfl ?_
            refine r_aldK (k := 64) kx_215_41 (tk_64 hT) ⟨by omega, by omega⟩ v40e ?_
            refine s_bipush (v := 10) kx_215_42 (by decide) ?_
            refine s_icmp_ne (t := 53) kx_215_44 (by decide) (fun hc42 => ?_) (fun hc42 => ?_)
            · refine s_aload_n kx_215_53 rfl ?_
              refine s_bipush (v := 59) kx_215_54 (by decide) ?_
              refine s_callV2 (k := 63) (s1 := 2) (s2 := 0) (as := [(0, 59)]) (rest := []) kx_215_56 kp_215_283 (Or.inl rfl) rfl (tk_63 hT) ki_181 kcl_181 rfl rfl (by decide) (m_181 (d := d + 2) (c := 59) hT hI2) (kF (fun v43 v43p => ?_))
              refine s_if_eq (t := 83) kx_215_59 (by decide) (fun hc44 => ?_) (fun hc44 => ?_)
              · replace v43p := v43p.resolve_left (by omega)
                refine s_aload_n kx_215_83 rfl ?_
                refine s_bipush (v := 59) kx_215_84 (by decide) ?_
                refine s_callV2 (k := 63) (s1 := 2) (s2 := 0) (as := [(0, 59)]) (rest := []) kx_215_86 kp_215_438 (Or.inl rfl) rfl (tk_63 hT) ki_183 kcl_183 rfl rfl (by decide) (m_183 (d := d) (c := 59) hT hI2 (LXp.fr hX fr2 rfl)) (kV (fun M46 hI46 fr46 v45p => ?_))
                have hFm46 := hFm2.call fr46 rfl
                have tr47 := rg_63_9 hI46
                exact s_vret kx_215_89 kq_215 ⟨_, rfl, rfl, hI46, hFm46, ⟨v45p.1, (by omega), (by omega), (by unfold PRd; first | omega | (have h9 := v45p.2.2.2; unfold PRd at h9; omega))⟩⟩
              · replace v43p := v43p.resolve_right (by omega)
                refine s_iload_n kx_215_62 rfl ?_
                refine s_bipush (v := 80) kx_215_63 (by decide) ?_
                refine s_icmp_ne (t := 83) kx_215_65 (by decide) (fun hc48 => ?_) (fun hc48 => ?_)
                · refine s_aload_n kx_215_83 rfl ?_
                  refine s_bipush (v := 59) kx_215_84 (by decide) ?_
                  refine s_callV2 (k := 63) (s1 := 2) (s2 := 0) (as := [(0, 59)]) (rest := []) kx_215_86 kp_215_438 (Or.inl rfl) rfl (tk_63 hT) ki_183 kcl_183 rfl rfl (by decide) (m_183 (d := d) (c := 59) hT hI2 (LXp.fr hX fr2 rfl)) (kV (fun M50 hI50 fr50 v49p => ?_))
                  have hFm50 := hFm2.call fr50 rfl
                  have tr51 := rg_63_9 hI50
                  exact s_vret kx_215_89 kq_215 ⟨_, rfl, rfl, hI50, hFm50, ⟨v49p.1, (by omega), (by omega), (by unfold PRd; first | omega | (have h9 := v49p.2.2.2; unfold PRd at h9; omega))⟩⟩
                · refine s_iload_n kx_215_68 rfl ?_
                  refine s_aload_n kx_215_69 rfl ?_
                  refine r_getK (k := 63) (f := 2) kx_215_70 kp_215_17 (tk_63 hT) kf_12_2 (fun _ => rfl) v16e ?_
                  refine s_icmp_ge (t := 83) kx_215_73 (by decide) (fun hc52 => ?_) (fun hc52 => ?_)
                  · refine s_aload_n kx_215_83 rfl ?_
                    refine s_bipush (v := 59) kx_215_84 (by decide) ?_
                    refine s_callV2 (k := 63) (s1 := 2) (s2 := 0) (as := [(0, 59)]) (rest := []) kx_215_86 kp_215_438 (Or.inl rfl) rfl (tk_63 hT) ki_183 kcl_183 rfl rfl (by decide) (m_183 (d := d) (c := 59) hT hI2 (LXp.fr hX fr2 rfl)) (kV (fun M54 hI54 fr54 v53p => ?_))
                    have hFm54 := hFm2.call fr54 rfl
                    have tr55 := rg_63_9 hI54
                    exact s_vret kx_215_89 kq_215 ⟨_, rfl, rfl, hI54, hFm54, ⟨v53p.1, (by omega), (by omega), (by unfold PRd; first | omega | (have h9 := v53p.2.2.2; unfold PRd at h9; omega))⟩⟩
                  · refine s_aload_n kx_215_76 rfl ?_
                    refine s_bipush (v := 6) kx_215_77 (by decide) ?_
                    refine s_iload_n kx_215_79 rfl ?_
                    refine s_callV2 (k := 63) (s1 := 3) (s2 := 0) (as := [(0, x2_10), (0, 6)]) (rest := []) kx_215_80 kp_215_263 (Or.inl rfl) rfl (tk_63 hT) ki_176 kcl_176 rfl rfl (by decide) (m_176 (d := d + 2) (kind := 6) (place := x2_10) hT hI2 (by omega)) (kV (fun M57 hI57 fr57 v56p => ?_))
                    have hFm57 := hFm2.call fr57 rfl
                    have tr58 := (fr57 63 3 rfl)
                    have tr59 := (fr57 63 4 rfl)
                    have tr60 := (fr57 63 5 rfl)
                    have tr61 := rg_63_9 hI57
                    refine s_aload_n kx_215_83 rfl ?_
                    refine s_bipush (v := 59) kx_215_84 (by decide) ?_
                    refine s_callV2 (k := 63) (s1 := 2) (s2 := 0) (as := [(0, 59)]) (rest := []) kx_215_86 kp_215_438 (Or.inl rfl) rfl (tk_63 hT) ki_183 kcl_183 rfl rfl (by decide) (m_183 (d := d) (c := 59) hT hI57 (LXp.fr (LXp.fr hX fr2 rfl) fr57 rfl)) (kV (fun M63 hI63 fr63 v62p => ?_))
                    have hFm63 := hFm57.call fr63 rfl
                    have tr64 := rg_63_9 hI63
                    exact s_vret kx_215_89 kq_215 ⟨_, rfl, rfl, hI63, hFm63, ⟨v62p.1, (by omega), (by omega), (by unfold PRd; first | omega | (have h9 := v62p.2.2.2; unfold PRd at h9; omega))⟩⟩
            · refine r_iinc kx_215_47 rfl km_215_2 (by decide) ⟨by omega, by omega⟩ rfl ?_
              refine s_goto (t := 17) kx_215_50 (by decide) ?_
              exact cP.wk (lS1 rfl (lS1 rfl (lS1 rfl lS0))) (ih15 (x2_10 + 1) (by omega) (by omega))
    exact cP.wk (lS1 rfl (lS1 rfl (lS1 rfl lS0))) (key11 _ v9 (by omega) (Nat.lt_succ_self _))
  · have hk65 : M2 63 9 = v7 := v7e
    exact s_vret kx_215_11 kq_215 ⟨_, rfl, rfl, hI2, hFm2, ⟨(LXp.fr hX fr2 rfl), (by omega), (by omega), (by unfold PRd; first | omega | (have h9 := v62p.2.2.2; unfold PRd at h9; omega))⟩⟩
