theorem kx_131_0 : x_code k_P 131 0 = some (.aload_n 0, 1) := by decide +kernel
theorem kx_131_1 : x_code k_P 131 1 = some (.getfield 22, 3) := by decide +kernel
theorem kp_131_22 : x_pool k_P 131 22 = (1, 10, 1) := by decide +kernel
theorem kf_10_1 : (x_cls k_P 10)[1]? = some 12 := by decide +kernel
theorem kx_131_4 : x_code k_P 131 4 = some (.iload_n 1, 1) := by decide +kernel
theorem kx_131_5 : x_code k_P 131 5 = some (.invokevirtual 144, 3) := by decide +kernel
theorem kp_131_144 : x_pool k_P 131 144 = (2, 22, 1) := by decide +kernel
theorem kx_131_8 : x_code k_P 131 8 = some (.ifCond .ne 11, 3) := by decide +kernel
theorem kx_131_19 : x_code k_P 131 19 = some (.aload_n 0, 1) := by decide +kernel
theorem kx_131_20 : x_code k_P 131 20 = some (.getfield 22, 3) := by decide +kernel
theorem kx_131_23 : x_code k_P 131 23 = some (.invokevirtual 49, 3) := by decide +kernel
theorem kp_131_49 : x_pool k_P 131 49 = (2, 26, 0) := by decide +kernel
theorem kx_131_26 : x_code k_P 131 26 = some (.aload_n 0, 1) := by decide +kernel
theorem kx_131_27 : x_code k_P 131 27 = some (.getfield 22, 3) := by decide +kernel
theorem kx_131_30 : x_code k_P 131 30 = some (.getfield 63, 3) := by decide +kernel
theorem kp_131_63 : x_pool k_P 131 63 = (1, 3, 3) := by decide +kernel
theorem kx_131_33 : x_code k_P 131 33 = some (.iconst 3, 1) := by decide +kernel
theorem kx_131_34 : x_code k_P 131 34 = some (.if_icmp .eq 11, 3) := by decide +kernel
theorem kx_131_45 : x_code k_P 131 45 = some (.aload_n 0, 1) := by decide +kernel
theorem kx_131_46 : x_code k_P 131 46 = some (.getfield 22, 3) := by decide +kernel
theorem kx_131_49 : x_code k_P 131 49 = some (.getfield 66, 3) := by decide +kernel
theorem kp_131_66 : x_pool k_P 131 66 = (1, 3, 4) := by decide +kernel
theorem kx_131_52 : x_code k_P 131 52 = some (.iload_n 2, 1) := by decide +kernel
theorem kx_131_53 : x_code k_P 131 53 = some (.if_icmp .lt 14, 3) := by decide +kernel
theorem kx_131_67 : x_code k_P 131 67 = some (.aload_n 0, 1) := by decide +kernel
theorem kx_131_68 : x_code k_P 131 68 = some (.getfield 22, 3) := by decide +kernel
theorem kx_131_71 : x_code k_P 131 71 = some (.iconst 4, 1) := by decide +kernel
theorem kx_131_72 : x_code k_P 131 72 = some (.aload_n 0, 1) := by decide +kernel
theorem kx_131_73 : x_code k_P 131 73 = some (.getfield 22, 3) := by decide +kernel
theorem kx_131_76 : x_code k_P 131 76 = some (.getfield 105, 3) := by decide +kernel
theorem kp_131_105 : x_pool k_P 131 105 = (1, 3, 5) := by decide +kernel
theorem kx_131_79 : x_code k_P 131 79 = some (.invokevirtual 45, 3) := by decide +kernel
theorem kp_131_45 : x_pool k_P 131 45 = (2, 20, 2) := by decide +kernel
theorem kx_131_82 : x_code k_P 131 82 = some (.ireturn, 1) := by decide +kernel
theorem kq_131 : x_retk k_P 131 = 2 := by decide +kernel
theorem kx_131_56 : x_code k_P 131 56 = some (.aload_n 0, 1) := by decide +kernel
theorem kx_131_57 : x_code k_P 131 57 = some (.getfield 22, 3) := by decide +kernel
theorem kx_131_60 : x_code k_P 131 60 = some (.getfield 66, 3) := by decide +kernel
theorem kx_131_63 : x_code k_P 131 63 = some (.iload_n 3, 1) := by decide +kernel
theorem kx_131_64 : x_code k_P 131 64 = some (.if_icmp .le 19, 3) := by decide +kernel
theorem kx_131_83 : x_code k_P 131 83 = some (.aload_n 0, 1) := by decide +kernel
theorem kx_131_84 : x_code k_P 131 84 = some (.aload_n 0, 1) := by decide +kernel
theorem kx_131_85 : x_code k_P 131 85 = some (.getfield 22, 3) := by decide +kernel
theorem kx_131_88 : x_code k_P 131 88 = some (.getfield 66, 3) := by decide +kernel
theorem kx_131_91 : x_code k_P 131 91 = some (.putfield 23, 3) := by decide +kernel
theorem kp_131_23 : x_pool k_P 131 23 = (1, 10, 2) := by decide +kernel
theorem kf_10_2 : (x_cls k_P 10)[2]? = some 0 := by decide +kernel
theorem kx_131_94 : x_code k_P 131 94 = some (.aload_n 0, 1) := by decide +kernel
theorem kx_131_95 : x_code k_P 131 95 = some (.getfield 22, 3) := by decide +kernel
theorem kx_131_98 : x_code k_P 131 98 = some (.invokevirtual 49, 3) := by decide +kernel
theorem kx_131_101 : x_code k_P 131 101 = some (.iconst 1, 1) := by decide +kernel
theorem kx_131_102 : x_code k_P 131 102 = some (.ireturn, 1) := by decide +kernel
theorem kx_131_37 : x_code k_P 131 37 = some (.aload_n 0, 1) := by decide +kernel
theorem kx_131_38 : x_code k_P 131 38 = some (.getfield 22, 3) := by decide +kernel
theorem kx_131_41 : x_code k_P 131 41 = some (.invokevirtual 60, 3) := by decide +kernel
theorem kp_131_60 : x_pool k_P 131 60 = (2, 21, 0) := by decide +kernel
theorem kx_131_44 : x_code k_P 131 44 = some (.ireturn, 1) := by decide +kernel
theorem kx_131_11 : x_code k_P 131 11 = some (.aload_n 0, 1) := by decide +kernel
theorem kx_131_12 : x_code k_P 131 12 = some (.getfield 22, 3) := by decide +kernel
theorem kx_131_15 : x_code k_P 131 15 = some (.invokevirtual 60, 3) := by decide +kernel
theorem kx_131_18 : x_code k_P 131 18 = some (.ireturn, 1) := by decide +kernel
def fS_131_m : List (Nat × Nat) := [(3, 2), (5, 2), (5, 3), (5, 4), (5, 5), (5, 6), (5, 7)]
theorem m_131 {xs : Nat → Int} {Ln d : Nat} {T : List cK} {M : cM} (hT : TT T) (hI : Rng M) (h50 : M 5 0 = ((2 : Nat) : Int)) {word least most : Int} : cC k_P xs Ln (d + 3) 131 [rf 3, (0, word), (0, least), (0, most)] (T, M) (qW T M fS_131_m 0 (fun v M1 => 0 ≤ v ∧ v ≤ 1)) := by
  show cP k_P xs Ln (d + 3) 131 0 [(0, rf 3), (1, (0, word)), (2, (0, least)), (3, (0, most))] [] (T, M) _
  have hFm : Fr fS_131_m M M := Fr.refl
  refine s_aload_n kx_131_0 rfl ?_
  refine r_getR (k := 3) (f := 1) (k2 := 5) kx_131_1 kp_131_22 (tk_3 hT) kf_10_1 (by decide) (rq_3_1 hI) ?_
  refine s_iload_n kx_131_4 rfl ?_
  refine s_callV2 (k := 5) (s1 := 2) (s2 := 0) (as := [(0, word)]) (rest := []) kx_131_5 kp_131_144 (Or.inl rfl) rfl (tk_5 hT) ki_22 kcl_22 rfl rfl (by decide) (m_22 (d := d + 2) (w := word) hT hI) (kF (fun v1 v1p => ?_))
  refine s_if_ne (t := 19) kx_131_8 (by decide) (fun hc2 => ?_) (fun hc2 => ?_)
  · replace v1p := v1p.resolve_right (by omega)
    refine s_aload_n kx_131_19 rfl ?_
    refine r_getR (k := 3) (f := 1) (k2 := 5) kx_131_20 kp_131_22 (tk_3 hT) kf_10_1 (by decide) (rq_3_1 hI) ?_
    refine s_callV2 (k := 5) (s1 := 1) (s2 := 0) (as := []) (rest := []) kx_131_23 kp_131_49 (Or.inl rfl) rfl (tk_5 hT) ki_26 kcl_26 rfl rfl (by decide) (m_26 (d := d) hT hI h50) (kV (fun M4 hI4 fr4 v3p => ?_))
    have hFm4 := hFm.call fr4 rfl
    refine s_aload_n kx_131_26 rfl ?_
    refine r_getR (k := 3) (f := 1) (k2 := 5) kx_131_27 kp_131_22 (tk_3 hT) kf_10_1 (by decide) (rq_3_1 hI4) ?_
    refine r_getI (k := 5) (f := 3) kx_131_30 kp_131_63 (tk_5 hT) kf_3_3 (fun _ => rfl) (rg_5_3 hI4) (fun v5 v5e v5a v5b => ?_)
    refine s_iconst (v := 3) kx_131_33 (by decide) ?_
    refine s_icmp_eq (t := 45) kx_131_34 (by decide) (fun hc6 => ?_) (fun hc6 => ?_)
    · refine s_aload_n kx_131_45 rfl ?_
      refine r_getR (k := 3) (f := 1) (k2 := 5) kx_131_46 kp_131_22 (tk_3 hT) kf_10_1 (by decide) (rq_3_1 hI4) ?_
      refine r_getU (k := 5) (f := 4) kx_131_49 kp_131_66 (tk_5 hT) kf_3_4 (fun _ => rfl) (fun v7 v7e => ?_)
      refine s_iload_n kx_131_52 rfl ?_
      refine s_icmp_lt (t := 67) kx_131_53 (by decide) (fun hc8 => ?_) (fun hc8 => ?_)
      · refine s_aload_n kx_131_67 rfl ?_
        refine r_getR (k := 3) (f := 1) (k2 := 5) kx_131_68 kp_131_22 (tk_3 hT) kf_10_1 (by decide) (rq_3_1 hI4) ?_
        refine s_iconst (v := 4) kx_131_71 (by decide) ?_
        refine s_aload_n kx_131_72 rfl ?_
        refine r_getR (k := 3) (f := 1) (k2 := 5) kx_131_73 kp_131_22 (tk_3 hT) kf_10_1 (by decide) (rq_3_1 hI4) ?_
        refine r_getI (k := 5) (f := 5) kx_131_76 kp_131_105 (tk_5 hT) kf_3_5 (fun _ => rfl) (rg_5_5 hI4) (fun v9 v9e v9a v9b => ?_)
        refine s_callV2 (k := 5) (s1 := 3) (s2 := 0) (as := [(0, v9), (0, 4)]) (rest := []) kx_131_79 kp_131_45 (Or.inl rfl) rfl (tk_5 hT) ki_20 kcl_20 rfl rfl (by decide) (m_20 (d := d + 2) (kind := 4) (place := v9) hT hI4) (kW (fun v10 M11 hI11 fr11 v10p => ?_))
        have hFm11 := hFm4.call fr11 rfl
        exact s_iret kx_131_82 (Or.inr ⟨kq_131, by omega⟩) ⟨_, _, rfl, rfl, hI11, hFm11, (by omega)⟩
      · refine s_aload_n kx_131_56 rfl ?_
        refine r_getR (k := 3) (f := 1) (k2 := 5) kx_131_57 kp_131_22 (tk_3 hT) kf_10_1 (by decide) (rq_3_1 hI4) ?_
        refine r_getK (k := 5) (f := 4) kx_131_60 kp_131_66 (tk_5 hT) kf_3_4 (fun _ => rfl) v7e ?_
        refine s_iload_n kx_131_63 rfl ?_
        refine s_icmp_le (t := 83) kx_131_64 (by decide) (fun hc12 => ?_) (fun hc12 => ?_)
        · refine s_aload_n kx_131_83 rfl ?_
          refine s_aload_n kx_131_84 rfl ?_
          refine r_getR (k := 3) (f := 1) (k2 := 5) kx_131_85 kp_131_22 (tk_3 hT) kf_10_1 (by decide) (rq_3_1 hI4) ?_
          refine r_getK (k := 5) (f := 4) kx_131_88 kp_131_66 (tk_5 hT) kf_3_4 (fun _ => rfl) v7e ?_
          refine r_put (k := 3) (f := 2) kx_131_91 kp_131_23 (tk_3 hT) kf_10_2 rfl (by decide) (by decide) hI4 ru_3_2 (fun M13 hI13 u13 => ?_)
          have hFm13 := hFm4.up u13 rfl
          refine s_aload_n kx_131_94 rfl ?_
          refine r_getR (k := 3) (f := 1) (k2 := 5) kx_131_95 kp_131_22 (tk_3 hT) kf_10_1 (by decide) (rq_3_1 hI13) ?_
          refine s_callV2 (k := 5) (s1 := 1) (s2 := 0) (as := []) (rest := []) kx_131_98 kp_131_49 (Or.inl rfl) rfl (tk_5 hT) ki_26 kcl_26 rfl rfl (by decide) (m_26 (d := d) hT hI13 ((u13.2 5 0 (by omega)).trans ((fr4 5 0 rfl).trans h50))) (kV (fun M15 hI15 fr15 v14p => ?_))
          have hFm15 := hFm13.call fr15 rfl
          refine s_iconst (v := 1) kx_131_101 (by decide) ?_
          exact s_iret kx_131_102 (Or.inr ⟨kq_131, by omega⟩) ⟨_, _, rfl, rfl, hI15, hFm15, (by omega)⟩
        · refine s_aload_n kx_131_67 rfl ?_
          refine r_getR (k := 3) (f := 1) (k2 := 5) kx_131_68 kp_131_22 (tk_3 hT) kf_10_1 (by decide) (rq_3_1 hI4) ?_
          refine s_iconst (v := 4) kx_131_71 (by decide) ?_
          refine s_aload_n kx_131_72 rfl ?_
          refine r_getR (k := 3) (f := 1) (k2 := 5) kx_131_73 kp_131_22 (tk_3 hT) kf_10_1 (by decide) (rq_3_1 hI4) ?_
          refine r_getI (k := 5) (f := 5) kx_131_76 kp_131_105 (tk_5 hT) kf_3_5 (fun _ => rfl) (rg_5_5 hI4) (fun v16 v16e v16a v16b => ?_)
          refine s_callV2 (k := 5) (s1 := 3) (s2 := 0) (as := [(0, v16), (0, 4)]) (rest := []) kx_131_79 kp_131_45 (Or.inl rfl) rfl (tk_5 hT) ki_20 kcl_20 rfl rfl (by decide) (m_20 (d := d + 2) (kind := 4) (place := v16) hT hI4) (kW (fun v17 M18 hI18 fr18 v17p => ?_))
          have hFm18 := hFm4.call fr18 rfl
          exact s_iret kx_131_82 (Or.inr ⟨kq_131, by omega⟩) ⟨_, _, rfl, rfl, hI18, hFm18, (by omega)⟩
    · refine s_aload_n kx_131_37 rfl ?_
      refine r_getR (k := 3) (f := 1) (k2 := 5) kx_131_38 kp_131_22 (tk_3 hT) kf_10_1 (by decide) (rq_3_1 hI4) ?_
      refine s_callV2 (k := 5) (s1 := 1) (s2 := 0) (as := []) (rest := []) kx_131_41 kp_131_60 (Or.inl rfl) rfl (tk_5 hT) ki_21 kcl_21 rfl rfl (by decide) (m_21 (d := d + 1) hT hI4) (kW (fun v19 M20 hI20 fr20 v19p => ?_))
      have hFm20 := hFm4.call fr20 rfl
      exact s_iret kx_131_44 (Or.inr ⟨kq_131, by omega⟩) ⟨_, _, rfl, rfl, hI20, hFm20, (by omega)⟩
  · replace v1p := v1p.resolve_left (by omega)
    refine s_aload_n kx_131_11 rfl ?_
    refine r_getR (k := 3) (f := 1) (k2 := 5) kx_131_12 kp_131_22 (tk_3 hT) kf_10_1 (by decide) (rq_3_1 hI) ?_
    refine s_callV2 (k := 5) (s1 := 1) (s2 := 0) (as := []) (rest := []) kx_131_15 kp_131_60 (Or.inl rfl) rfl (tk_5 hT) ki_21 kcl_21 rfl rfl (by decide) (m_21 (d := d + 1) hT hI) (kW (fun v21 M22 hI22 fr22 v21p => ?_))
    have hFm22 := hFm.call fr22 rfl
    exact s_iret kx_131_18 (Or.inr ⟨kq_131, by omega⟩) ⟨_, _, rfl, rfl, hI22, hFm22, (by omega)⟩
theorem kx_132_0 : x_code k_P 132 0 = some (.aload_n 0, 1) := by decide +kernel
theorem kx_132_1 : x_code k_P 132 1 = some (.getfield 22, 3) := by decide +kernel
theorem kp_132_22 : x_pool k_P 132 22 = (1, 10, 1) := by decide +kernel
theorem kx_132_4 : x_code k_P 132 4 = some (.getfield 63, 3) := by decide +kernel
theorem kp_132_63 : x_pool k_P 132 63 = (1, 3, 3) := by decide +kernel
theorem kx_132_7 : x_code k_P 132 7 = some (.iconst 2, 1) := by decide +kernel
theorem kx_132_8 : x_code k_P 132 8 = some (.if_icmp .eq 13, 3) := by decide +kernel
theorem kx_132_21 : x_code k_P 132 21 = some (.aload_n 1, 1) := by decide +kernel
theorem kx_132_22 : x_code k_P 132 22 = some (.aload_n 0, 1) := by decide +kernel
theorem kx_132_23 : x_code k_P 132 23 = some (.getfield 22, 3) := by decide +kernel
theorem kx_132_26 : x_code k_P 132 26 = some (.getfield 66, 3) := by decide +kernel
theorem kp_132_66 : x_pool k_P 132 66 = (1, 3, 4) := by decide +kernel
theorem kx_132_29 : x_code k_P 132 29 = some (.invokevirtual 170, 3) := by decide +kernel
theorem kp_132_170 : x_pool k_P 132 170 = (2, 108, 1) := by decide +kernel
theorem ki_108 : x_mci k_P 108 = 9 := by decide +kernel
theorem kcl_108 : x_maxL k_P 108 ≤ 60 ∧ 2 ≤ x_maxL k_P 108 := by decide +kernel
theorem kx_132_32 : x_code k_P 132 32 = some (.iconst (-1), 1) := by decide +kernel
theorem kx_132_33 : x_code k_P 132 33 = some (.if_icmp .ne 18, 3) := by decide +kernel
theorem kx_132_51 : x_code k_P 132 51 = some (.aload_n 0, 1) := by decide +kernel
theorem kx_132_52 : x_code k_P 132 52 = some (.getfield 22, 3) := by decide +kernel
theorem kx_132_55 : x_code k_P 132 55 = some (.iconst 2, 1) := by decide +kernel
theorem kx_132_56 : x_code k_P 132 56 = some (.aload_n 0, 1) := by decide +kernel
theorem kx_132_57 : x_code k_P 132 57 = some (.getfield 22, 3) := by decide +kernel
theorem kx_132_60 : x_code k_P 132 60 = some (.getfield 105, 3) := by decide +kernel
theorem kp_132_105 : x_pool k_P 132 105 = (1, 3, 5) := by decide +kernel
theorem kx_132_63 : x_code k_P 132 63 = some (.invokevirtual 45, 3) := by decide +kernel
theorem kp_132_45 : x_pool k_P 132 45 = (2, 20, 2) := by decide +kernel
theorem kx_132_66 : x_code k_P 132 66 = some (.pop, 1) := by decide +kernel
theorem kx_132_67 : x_code k_P 132 67 = some (.iconst (-1), 1) := by decide +kernel
theorem kx_132_68 : x_code k_P 132 68 = some (.ireturn, 1) := by decide +kernel
theorem kq_132 : x_retk k_P 132 = 1 := by decide +kernel
theorem kx_132_36 : x_code k_P 132 36 = some (.aload_n 1, 1) := by decide +kernel
theorem kx_132_37 : x_code k_P 132 37 = some (.aload_n 0, 1) := by decide +kernel
theorem kx_132_38 : x_code k_P 132 38 = some (.getfield 22, 3) := by decide +kernel
theorem kx_132_41 : x_code k_P 132 41 = some (.getfield 66, 3) := by decide +kernel
theorem kx_132_44 : x_code k_P 132 44 = some (.invokevirtual 174, 3) := by decide +kernel
theorem kp_132_174 : x_pool k_P 132 174 = (2, 109, 1) := by decide +kernel
theorem ki_109 : x_mci k_P 109 = 9 := by decide +kernel
theorem kcl_109 : x_maxL k_P 109 ≤ 60 ∧ 2 ≤ x_maxL k_P 109 := by decide +kernel
theorem kx_132_47 : x_code k_P 132 47 = some (.iconst (-1), 1) := by decide +kernel
theorem kx_132_48 : x_code k_P 132 48 = some (.if_icmp .eq 21, 3) := by decide +kernel
theorem kx_132_69 : x_code k_P 132 69 = some (.aload_n 0, 1) := by decide +kernel
theorem kx_132_70 : x_code k_P 132 70 = some (.getfield 22, 3) := by decide +kernel
theorem kx_132_73 : x_code k_P 132 73 = some (.getfield 66, 3) := by decide +kernel
theorem kx_132_76 : x_code k_P 132 76 = some (.ireturn, 1) := by decide +kernel
theorem kx_132_11 : x_code k_P 132 11 = some (.aload_n 0, 1) := by decide +kernel
theorem kx_132_12 : x_code k_P 132 12 = some (.getfield 22, 3) := by decide +kernel
theorem kx_132_15 : x_code k_P 132 15 = some (.invokevirtual 60, 3) := by decide +kernel
theorem kp_132_60 : x_pool k_P 132 60 = (2, 21, 0) := by decide +kernel
theorem kx_132_18 : x_code k_P 132 18 = some (.pop, 1) := by decide +kernel
theorem kx_132_19 : x_code k_P 132 19 = some (.iconst (-1), 1) := by decide +kernel
theorem kx_132_20 : x_code k_P 132 20 = some (.ireturn, 1) := by decide +kernel
def fS_132_m : List (Nat × Nat) := [(5, 6), (5, 7)]
theorem m_132 {xs : Nat → Int} {Ln d : Nat} {T : List cK} {M : cM} (hT : TT T) (hI : Rng M) {t : Nat} (ht : t = 8 ∨ t = 25) : cC k_P xs Ln (d + 2) 132 [rf 3, rf t] (T, M) (qW T M fS_132_m 0 (fun v M1 => True)) := by
  show cP k_P xs Ln (d + 2) 132 0 [(0, rf 3), (1, rf t)] [] (T, M) _
  have hFm : Fr fS_132_m M M := Fr.refl
  refine s_aload_n kx_132_0 rfl ?_
  refine r_getR (k := 3) (f := 1) (k2 := 5) kx_132_1 kp_132_22 (tk_3 hT) kf_10_1 (by decide) (rq_3_1 hI) ?_
  refine r_getI (k := 5) (f := 3) kx_132_4 kp_132_63 (tk_5 hT) kf_3_3 (fun _ => rfl) (rg_5_3 hI) (fun v1 v1e v1a v1b => ?_)
  refine s_iconst (v := 2) kx_132_7 (by decide) ?_
  refine s_icmp_eq (t := 21) kx_132_8 (by decide) (fun hc2 => ?_) (fun hc2 => ?_)
  · refine s_aload_n kx_132_21 rfl ?_
    refine s_aload_n kx_132_22 rfl ?_
    refine r_getR (k := 3) (f := 1) (k2 := 5) kx_132_23 kp_132_22 (tk_3 hT) kf_10_1 (by decide) (rq_3_1 hI) ?_
    refine r_getU (k := 5) (f := 4) kx_132_26 kp_132_66 (tk_5 hT) kf_3_4 (fun _ => rfl) (fun v3 v3e => ?_)
    refine s_callV2 (k := t) (s1 := 2) (s2 := 0) (as := [(0, v3)]) (rest := []) kx_132_29 kp_132_170 (Or.inl rfl) rfl (tkt_0 hT ht) ki_108 kcl_108 rfl rfl (by decide) (m_108 (d := d) (name := v3) hT hI ht) (kF (fun v4 v4p => ?_))
    refine s_iconst (v := (-1)) kx_132_32 (by decide) ?_
    refine s_icmp_ne (t := 51) kx_132_33 (by decide) (fun hc5 => ?_) (fun hc5 => ?_)
    · refine s_aload_n kx_132_51 rfl ?_
      refine r_getR (k := 3) (f := 1) (k2 := 5) kx_132_52 kp_132_22 (tk_3 hT) kf_10_1 (by decide) (rq_3_1 hI) ?_
      refine s_iconst (v := 2) kx_132_55 (by decide) ?_
      refine s_aload_n kx_132_56 rfl ?_
      refine r_getR (k := 3) (f := 1) (k2 := 5) kx_132_57 kp_132_22 (tk_3 hT) kf_10_1 (by decide) (rq_3_1 hI) ?_
      refine r_getI (k := 5) (f := 5) kx_132_60 kp_132_105 (tk_5 hT) kf_3_5 (fun _ => rfl) (rg_5_5 hI) (fun v6 v6e v6a v6b => ?_)
      refine s_callV2 (k := 5) (s1 := 3) (s2 := 0) (as := [(0, v6), (0, 2)]) (rest := []) kx_132_63 kp_132_45 (Or.inl rfl) rfl (tk_5 hT) ki_20 kcl_20 rfl rfl (by decide) (m_20 (d := d + 1) (kind := 2) (place := v6) hT hI) (kW (fun v7 M8 hI8 fr8 v7p => ?_))
      have hFm8 := hFm.call fr8 rfl
      refine s_pop kx_132_66 rfl ?_
      refine s_iconst (v := (-1)) kx_132_67 (by decide) ?_
      exact s_iret kx_132_68 (Or.inl kq_132) ⟨_, _, rfl, rfl, hI8, hFm8, trivial⟩
    · refine s_aload_n kx_132_36 rfl ?_
      refine s_aload_n kx_132_37 rfl ?_
      refine r_getR (k := 3) (f := 1) (k2 := 5) kx_132_38 kp_132_22 (tk_3 hT) kf_10_1 (by decide) (rq_3_1 hI) ?_
      refine r_getK (k := 5) (f := 4) kx_132_41 kp_132_66 (tk_5 hT) kf_3_4 (fun _ => rfl) v3e ?_
      refine s_callV2 (k := t) (s1 := 2) (s2 := 0) (as := [(0, v3)]) (rest := []) kx_132_44 kp_132_174 (Or.inl rfl) rfl (tkt_0 hT ht) ki_109 kcl_109 rfl rfl (by decide) (m_109 (d := d) (name := v3) hT hI ht) (kF (fun v9 v9p => ?_))
      refine s_iconst (v := (-1)) kx_132_47 (by decide) ?_
      refine s_icmp_eq (t := 69) kx_132_48 (by decide) (fun hc10 => ?_) (fun hc10 => ?_)
      · refine s_aload_n kx_132_69 rfl ?_
        refine r_getR (k := 3) (f := 1) (k2 := 5) kx_132_70 kp_132_22 (tk_3 hT) kf_10_1 (by decide) (rq_3_1 hI) ?_
        refine r_getK (k := 5) (f := 4) kx_132_73 kp_132_66 (tk_5 hT) kf_3_4 (fun _ => rfl) v3e ?_
        exact s_iret kx_132_76 (Or.inl kq_132) ⟨_, _, rfl, rfl, hI, hFm, trivial⟩
      · refine s_aload_n kx_132_51 rfl ?_
        refine r_getR (k := 3) (f := 1) (k2 := 5) kx_132_52 kp_132_22 (tk_3 hT) kf_10_1 (by decide) (rq_3_1 hI) ?_
        refine s_iconst (v := 2) kx_132_55 (by decide) ?_
        refine s_aload_n kx_132_56 rfl ?_
        refine r_getR (k := 3) (f := 1) (k2 := 5) kx_132_57 kp_132_22 (tk_3 hT) kf_10_1 (by decide) (rq_3_1 hI) ?_
        refine r_getI (k := 5) (f := 5) kx_132_60 kp_132_105 (tk_5 hT) kf_3_5 (fun _ => rfl) (rg_5_5 hI) (fun v11 v11e v11a v11b => ?_)
        refine s_callV2 (k := 5) (s1 := 3) (s2 := 0) (as := [(0, v11), (0, 2)]) (rest := []) kx_132_63 kp_132_45 (Or.inl rfl) rfl (tk_5 hT) ki_20 kcl_20 rfl rfl (by decide) (m_20 (d := d + 1) (kind := 2) (place := v11) hT hI) (kW (fun v12 M13 hI13 fr13 v12p => ?_))
        have hFm13 := hFm.call fr13 rfl
        refine s_pop kx_132_66 rfl ?_
        refine s_iconst (v := (-1)) kx_132_67 (by decide) ?_
        exact s_iret kx_132_68 (Or.inl kq_132) ⟨_, _, rfl, rfl, hI13, hFm13, trivial⟩
  · refine s_aload_n kx_132_11 rfl ?_
    refine r_getR (k := 3) (f := 1) (k2 := 5) kx_132_12 kp_132_22 (tk_3 hT) kf_10_1 (by decide) (rq_3_1 hI) ?_
    refine s_callV2 (k := 5) (s1 := 1) (s2 := 0) (as := []) (rest := []) kx_132_15 kp_132_60 (Or.inl rfl) rfl (tk_5 hT) ki_21 kcl_21 rfl rfl (by decide) (m_21 (d := d) hT hI) (kW (fun v14 M15 hI15 fr15 v14p => ?_))
    have hFm15 := hFm.call fr15 rfl
    refine s_pop kx_132_18 rfl ?_
    refine s_iconst (v := (-1)) kx_132_19 (by decide) ?_
    exact s_iret kx_132_20 (Or.inl kq_132) ⟨_, _, rfl, rfl, hI15, hFm15, trivial⟩
theorem kx_133_0 : x_code k_P 133 0 = some (.aload_n 0, 1) := by decide +kernel
theorem kx_133_1 : x_code k_P 133 1 = some (.getfield 22, 3) := by decide +kernel
theorem kp_133_22 : x_pool k_P 133 22 = (1, 10, 1) := by decide +kernel
theorem kx_133_4 : x_code k_P 133 4 = some (.getfield 63, 3) := by decide +kernel
theorem kp_133_63 : x_pool k_P 133 63 = (1, 3, 3) := by decide +kernel
theorem kx_133_7 : x_code k_P 133 7 = some (.iconst 2, 1) := by decide +kernel
theorem kx_133_8 : x_code k_P 133 8 = some (.if_icmp .eq 13, 3) := by decide +kernel
theorem kx_133_21 : x_code k_P 133 21 = some (.aload_n 1, 1) := by decide +kernel
theorem kx_133_22 : x_code k_P 133 22 = some (.aload_n 0, 1) := by decide +kernel
theorem kx_133_23 : x_code k_P 133 23 = some (.getfield 22, 3) := by decide +kernel
theorem kx_133_26 : x_code k_P 133 26 = some (.getfield 66, 3) := by decide +kernel
theorem kp_133_66 : x_pool k_P 133 66 = (1, 3, 4) := by decide +kernel
theorem kx_133_29 : x_code k_P 133 29 = some (.invokevirtual 170, 3) := by decide +kernel
theorem kp_133_170 : x_pool k_P 133 170 = (2, 108, 1) := by decide +kernel
theorem kx_133_32 : x_code k_P 133 32 = some (.istore_n 2, 1) := by decide +kernel
theorem km_133_2 : 2 < x_maxL k_P 133 := by decide +kernel
theorem kx_133_33 : x_code k_P 133 33 = some (.iload_n 2, 1) := by decide +kernel
theorem kx_133_34 : x_code k_P 133 34 = some (.iconst (-1), 1) := by decide +kernel
theorem kx_133_35 : x_code k_P 133 35 = some (.if_icmp .ne 19, 3) := by decide +kernel
theorem kx_133_54 : x_code k_P 133 54 = some (.iload_n 2, 1) := by decide +kernel
theorem kx_133_55 : x_code k_P 133 55 = some (.ireturn, 1) := by decide +kernel
theorem kq_133 : x_retk k_P 133 = 1 := by decide +kernel
theorem kx_133_38 : x_code k_P 133 38 = some (.aload_n 0, 1) := by decide +kernel
theorem kx_133_39 : x_code k_P 133 39 = some (.getfield 22, 3) := by decide +kernel
theorem kx_133_42 : x_code k_P 133 42 = some (.iconst 3, 1) := by decide +kernel
theorem kx_133_43 : x_code k_P 133 43 = some (.aload_n 0, 1) := by decide +kernel
theorem kx_133_44 : x_code k_P 133 44 = some (.getfield 22, 3) := by decide +kernel
theorem kx_133_47 : x_code k_P 133 47 = some (.getfield 105, 3) := by decide +kernel
theorem kp_133_105 : x_pool k_P 133 105 = (1, 3, 5) := by decide +kernel
theorem kx_133_50 : x_code k_P 133 50 = some (.invokevirtual 45, 3) := by decide +kernel
theorem kp_133_45 : x_pool k_P 133 45 = (2, 20, 2) := by decide +kernel
theorem kx_133_53 : x_code k_P 133 53 = some (.pop, 1) := by decide +kernel
theorem kx_133_11 : x_code k_P 133 11 = some (.aload_n 0, 1) := by decide +kernel
theorem kx_133_12 : x_code k_P 133 12 = some (.getfield 22, 3) := by decide +kernel
theorem kx_133_15 : x_code k_P 133 15 = some (.invokevirtual 60, 3) := by decide +kernel
theorem kp_133_60 : x_pool k_P 133 60 = (2, 21, 0) := by decide +kernel
theorem kx_133_18 : x_code k_P 133 18 = some (.pop, 1) := by decide +kernel
theorem kx_133_19 : x_code k_P 133 19 = some (.iconst (-1), 1) := by decide +kernel
theorem kx_133_20 : x_code k_P 133 20 = some (.ireturn, 1) := by decide +kernel
def fS_133_m : List (Nat × Nat) := [(5, 6), (5, 7)]
theorem m_133 {xs : Nat → Int} {Ln d : Nat} {T : List cK} {M : cM} (hT : TT T) (hI : Rng M) {t : Nat} (ht : t = 8 ∨ t = 25) : cC k_P xs Ln (d + 2) 133 [rf 3, rf t] (T, M) (qW T M fS_133_m 0 (fun v M1 => (-1) ≤ v ∧ v ≤ 7)) := by
  show cP k_P xs Ln (d + 2) 133 0 [(0, rf 3), (1, rf t)] [] (T, M) _
  have hFm : Fr fS_133_m M M := Fr.refl
  refine s_aload_n kx_133_0 rfl ?_
  refine r_getR (k := 3) (f := 1) (k2 := 5) kx_133_1 kp_133_22 (tk_3 hT) kf_10_1 (by decide) (rq_3_1 hI) ?_
  refine r_getI (k := 5) (f := 3) kx_133_4 kp_133_63 (tk_5 hT) kf_3_3 (fun _ => rfl) (rg_5_3 hI) (fun v1 v1e v1a v1b => ?_)
  refine s_iconst (v := 2) kx_133_7 (by decide) ?_
  refine s_icmp_eq (t := 21) kx_133_8 (by decide) (fun hc2 => ?_) (fun hc2 => ?_)
  · refine s_aload_n kx_133_21 rfl ?_
    refine s_aload_n kx_133_22 rfl ?_
    refine r_getR (k := 3) (f := 1) (k2 := 5) kx_133_23 kp_133_22 (tk_3 hT) kf_10_1 (by decide) (rq_3_1 hI) ?_
    refine r_getU (k := 5) (f := 4) kx_133_26 kp_133_66 (tk_5 hT) kf_3_4 (fun _ => rfl) (fun v3 v3e => ?_)
    refine s_callV2 (k := t) (s1 := 2) (s2 := 0) (as := [(0, v3)]) (rest := []) kx_133_29 kp_133_170 (Or.inl rfl) rfl (tkt_0 hT ht) ki_108 kcl_108 rfl rfl (by decide) (m_108 (d := d) (name := v3) hT hI ht) (kF (fun v4 v4p => ?_))
    refine s_istore_n kx_133_32 km_133_2 rfl ?_
    refine s_iload_n kx_133_33 rfl ?_
    refine s_iconst (v := (-1)) kx_133_34 (by decide) ?_
    refine s_icmp_ne (t := 54) kx_133_35 (by decide) (fun hc5 => ?_) (fun hc5 => ?_)
    · refine s_iload_n kx_133_54 rfl ?_
      exact s_iret kx_133_55 (Or.inl kq_133) ⟨_, _, rfl, rfl, hI, hFm, (by omega)⟩
    · refine s_aload_n kx_133_38 rfl ?_
      refine r_getR (k := 3) (f := 1) (k2 := 5) kx_133_39 kp_133_22 (tk_3 hT) kf_10_1 (by decide) (rq_3_1 hI) ?_
      refine s_iconst (v := 3) kx_133_42 (by decide) ?_
      refine s_aload_n kx_133_43 rfl ?_
      refine r_getR (k := 3) (f := 1) (k2 := 5) kx_133_44 kp_133_22 (tk_3 hT) kf_10_1 (by decide) (rq_3_1 hI) ?_
      refine r_getI (k := 5) (f := 5) kx_133_47 kp_133_105 (tk_5 hT) kf_3_5 (fun _ => rfl) (rg_5_5 hI) (fun v6 v6e v6a v6b => ?_)
      refine s_callV2 (k := 5) (s1 := 3) (s2 := 0) (as := [(0, v6), (0, 3)]) (rest := []) kx_133_50 kp_133_45 (Or.inl rfl) rfl (tk_5 hT) ki_20 kcl_20 rfl rfl (by decide) (m_20 (d := d + 1) (kind := 3) (place := v6) hT hI) (kW (fun v7 M8 hI8 fr8 v7p => ?_))
      have hFm8 := hFm.call fr8 rfl
      refine s_pop kx_133_53 rfl ?_
      refine s_iload_n kx_133_54 rfl ?_
      exact s_iret kx_133_55 (Or.inl kq_133) ⟨_, _, rfl, rfl, hI8, hFm8, (by omega)⟩
  · refine s_aload_n kx_133_11 rfl ?_
    refine r_getR (k := 3) (f := 1) (k2 := 5) kx_133_12 kp_133_22 (tk_3 hT) kf_10_1 (by decide) (rq_3_1 hI) ?_
    refine s_callV2 (k := 5) (s1 := 1) (s2 := 0) (as := []) (rest := []) kx_133_15 kp_133_60 (Or.inl rfl) rfl (tk_5 hT) ki_21 kcl_21 rfl rfl (by decide) (m_21 (d := d) hT hI) (kW (fun v9 M10 hI10 fr10 v9p => ?_))
    have hFm10 := hFm.call fr10 rfl
    refine s_pop kx_133_18 rfl ?_
    refine s_iconst (v := (-1)) kx_133_19 (by decide) ?_
    exact s_iret kx_133_20 (Or.inl kq_133) ⟨_, _, rfl, rfl, hI10, hFm10, (by omega)⟩
theorem kx_134_0 : x_code k_P 134 0 = some (.aload_n 0, 1) := by decide +kernel
theorem kx_134_1 : x_code k_P 134 1 = some (.getfield 22, 3) := by decide +kernel
theorem kp_134_22 : x_pool k_P 134 22 = (1, 10, 1) := by decide +kernel
theorem kx_134_4 : x_code k_P 134 4 = some (.getfield 63, 3) := by decide +kernel
theorem kp_134_63 : x_pool k_P 134 63 = (1, 3, 3) := by decide +kernel
theorem kx_134_7 : x_code k_P 134 7 = some (.iconst 2, 1) := by decide +kernel
theorem kx_134_8 : x_code k_P 134 8 = some (.if_icmp .eq 13, 3) := by decide +kernel
theorem kx_134_21 : x_code k_P 134 21 = some (.aload_n 1, 1) := by decide +kernel
theorem kx_134_22 : x_code k_P 134 22 = some (.aload_n 0, 1) := by decide +kernel
theorem kx_134_23 : x_code k_P 134 23 = some (.getfield 22, 3) := by decide +kernel
theorem kx_134_26 : x_code k_P 134 26 = some (.getfield 66, 3) := by decide +kernel
theorem kp_134_66 : x_pool k_P 134 66 = (1, 3, 4) := by decide +kernel
theorem kx_134_29 : x_code k_P 134 29 = some (.invokevirtual 174, 3) := by decide +kernel
theorem kp_134_174 : x_pool k_P 134 174 = (2, 109, 1) := by decide +kernel
theorem kx_134_32 : x_code k_P 134 32 = some (.istore_n 3, 1) := by decide +kernel
theorem km_134_3 : 3 < x_maxL k_P 134 := by decide +kernel
theorem kx_134_33 : x_code k_P 134 33 = some (.iload_n 3, 1) := by decide +kernel
theorem kx_134_34 : x_code k_P 134 34 = some (.iconst (-1), 1) := by decide +kernel
theorem kx_134_35 : x_code k_P 134 35 = some (.if_icmp .eq 18, 3) := by decide +kernel
theorem kx_134_53 : x_code k_P 134 53 = some (.aload_n 0, 1) := by decide +kernel
theorem kx_134_54 : x_code k_P 134 54 = some (.getfield 22, 3) := by decide +kernel
theorem kx_134_57 : x_code k_P 134 57 = some (.iconst 3, 1) := by decide +kernel
theorem kx_134_58 : x_code k_P 134 58 = some (.aload_n 0, 1) := by decide +kernel
theorem kx_134_59 : x_code k_P 134 59 = some (.getfield 22, 3) := by decide +kernel
theorem kx_134_62 : x_code k_P 134 62 = some (.getfield 105, 3) := by decide +kernel
theorem kp_134_105 : x_pool k_P 134 105 = (1, 3, 5) := by decide +kernel
theorem kx_134_65 : x_code k_P 134 65 = some (.invokevirtual 45, 3) := by decide +kernel
theorem kp_134_45 : x_pool k_P 134 45 = (2, 20, 2) := by decide +kernel
theorem kx_134_68 : x_code k_P 134 68 = some (.pop, 1) := by decide +kernel
theorem kx_134_69 : x_code k_P 134 69 = some (.iconst (-1), 1) := by decide +kernel
theorem kx_134_70 : x_code k_P 134 70 = some (.ireturn, 1) := by decide +kernel
theorem kq_134 : x_retk k_P 134 = 1 := by decide +kernel
theorem kx_134_38 : x_code k_P 134 38 = some (.iload_n 3, 1) := by decide +kernel
theorem kx_134_39 : x_code k_P 134 39 = some (.iload_n 2, 1) := by decide +kernel
theorem kx_134_40 : x_code k_P 134 40 = some (.if_icmp .eq 13, 3) := by decide +kernel
theorem kx_134_43 : x_code k_P 134 43 = some (.aload_n 1, 1) := by decide +kernel
theorem kx_134_44 : x_code k_P 134 44 = some (.getfield 177, 3) := by decide +kernel
theorem kp_134_177 : x_pool k_P 134 177 = (1, 9, 12) := by decide +kernel
theorem kx_134_47 : x_code k_P 134 47 = some (.iload_n 3, 1) := by decide +kernel
theorem kx_134_48 : x_code k_P 134 48 = some (.iaload, 1) := by decide +kernel
theorem kx_134_49 : x_code k_P 134 49 = some (.iconst (-1), 1) := by decide +kernel
theorem kx_134_50 : x_code k_P 134 50 = some (.if_icmp .eq 21, 3) := by decide +kernel
theorem kx_134_71 : x_code k_P 134 71 = some (.iload_n 3, 1) := by decide +kernel
theorem kx_134_72 : x_code k_P 134 72 = some (.ireturn, 1) := by decide +kernel
theorem kx_134_11 : x_code k_P 134 11 = some (.aload_n 0, 1) := by decide +kernel
theorem kx_134_12 : x_code k_P 134 12 = some (.getfield 22, 3) := by decide +kernel
theorem kx_134_15 : x_code k_P 134 15 = some (.invokevirtual 60, 3) := by decide +kernel
theorem kp_134_60 : x_pool k_P 134 60 = (2, 21, 0) := by decide +kernel
theorem kx_134_18 : x_code k_P 134 18 = some (.pop, 1) := by decide +kernel
theorem kx_134_19 : x_code k_P 134 19 = some (.iconst (-1), 1) := by decide +kernel
theorem kx_134_20 : x_code k_P 134 20 = some (.ireturn, 1) := by decide +kernel
def fS_134_m : List (Nat × Nat) := [(5, 6), (5, 7)]
theorem m_134 {xs : Nat → Int} {Ln d : Nat} {T : List cK} {M : cM} (hT : TT T) (hI : Rng M) {t : Nat} (ht : t = 8 ∨ t = 25) {other : Int} : cC k_P xs Ln (d + 2) 134 [rf 3, rf t, (0, other)] (T, M) (qW T M fS_134_m 0 (fun v M1 => (-1) ≤ v ∧ v ≤ 7)) := by
  show cP k_P xs Ln (d + 2) 134 0 [(0, rf 3), (1, rf t), (2, (0, other))] [] (T, M) _
  have hFm : Fr fS_134_m M M := Fr.refl
  refine s_aload_n kx_134_0 rfl ?_
  refine r_getR (k := 3) (f := 1) (k2 := 5) kx_134_1 kp_134_22 (tk_3 hT) kf_10_1 (by decide) (rq_3_1 hI) ?_
  refine r_getI (k := 5) (f := 3) kx_134_4 kp_134_63 (tk_5 hT) kf_3_3 (fun _ => rfl) (rg_5_3 hI) (fun v1 v1e v1a v1b => ?_)
  refine s_iconst (v := 2) kx_134_7 (by decide) ?_
  refine s_icmp_eq (t := 21) kx_134_8 (by decide) (fun hc2 => ?_) (fun hc2 => ?_)
  · refine s_aload_n kx_134_21 rfl ?_
    refine s_aload_n kx_134_22 rfl ?_
    refine r_getR (k := 3) (f := 1) (k2 := 5) kx_134_23 kp_134_22 (tk_3 hT) kf_10_1 (by decide) (rq_3_1 hI) ?_
    refine r_getU (k := 5) (f := 4) kx_134_26 kp_134_66 (tk_5 hT) kf_3_4 (fun _ => rfl) (fun v3 v3e => ?_)
    refine s_callV2 (k := t) (s1 := 2) (s2 := 0) (as := [(0, v3)]) (rest := []) kx_134_29 kp_134_174 (Or.inl rfl) rfl (tkt_0 hT ht) ki_109 kcl_109 rfl rfl (by decide) (m_109 (d := d) (name := v3) hT hI ht) (kF (fun v4 v4p => ?_))
    refine s_istore_n kx_134_32 km_134_3 rfl ?_
    refine s_iload_n kx_134_33 rfl ?_
    refine s_iconst (v := (-1)) kx_134_34 (by decide) ?_
    refine s_icmp_eq (t := 53) kx_134_35 (by decide) (fun hc5 => ?_) (fun hc5 => ?_)
    · refine s_aload_n kx_134_53 rfl ?_
      refine r_getR (k := 3) (f := 1) (k2 := 5) kx_134_54 kp_134_22 (tk_3 hT) kf_10_1 (by decide) (rq_3_1 hI) ?_
      refine s_iconst (v := 3) kx_134_57 (by decide) ?_
      refine s_aload_n kx_134_58 rfl ?_
      refine r_getR (k := 3) (f := 1) (k2 := 5) kx_134_59 kp_134_22 (tk_3 hT) kf_10_1 (by decide) (rq_3_1 hI) ?_
      refine r_getI (k := 5) (f := 5) kx_134_62 kp_134_105 (tk_5 hT) kf_3_5 (fun _ => rfl) (rg_5_5 hI) (fun v6 v6e v6a v6b => ?_)
      refine s_callV2 (k := 5) (s1 := 3) (s2 := 0) (as := [(0, v6), (0, 3)]) (rest := []) kx_134_65 kp_134_45 (Or.inl rfl) rfl (tk_5 hT) ki_20 kcl_20 rfl rfl (by decide) (m_20 (d := d + 1) (kind := 3) (place := v6) hT hI) (kW (fun v7 M8 hI8 fr8 v7p => ?_))
      have hFm8 := hFm.call fr8 rfl
      refine s_pop kx_134_68 rfl ?_
      refine s_iconst (v := (-1)) kx_134_69 (by decide) ?_
      exact s_iret kx_134_70 (Or.inl kq_134) ⟨_, _, rfl, rfl, hI8, hFm8, (by omega)⟩
    · refine s_iload_n kx_134_38 rfl ?_
      refine s_iload_n kx_134_39 rfl ?_
      refine s_icmp_eq (t := 53) kx_134_40 (by decide) (fun hc9 => ?_) (fun hc9 => ?_)
      · refine s_aload_n kx_134_53 rfl ?_
        refine r_getR (k := 3) (f := 1) (k2 := 5) kx_134_54 kp_134_22 (tk_3 hT) kf_10_1 (by decide) (rq_3_1 hI) ?_
        refine s_iconst (v := 3) kx_134_57 (by decide) ?_
        refine s_aload_n kx_134_58 rfl ?_
        refine r_getR (k := 3) (f := 1) (k2 := 5) kx_134_59 kp_134_22 (tk_3 hT) kf_10_1 (by decide) (rq_3_1 hI) ?_
        refine r_getI (k := 5) (f := 5) kx_134_62 kp_134_105 (tk_5 hT) kf_3_5 (fun _ => rfl) (rg_5_5 hI) (fun v10 v10e v10a v10b => ?_)
        refine s_callV2 (k := 5) (s1 := 3) (s2 := 0) (as := [(0, v10), (0, 3)]) (rest := []) kx_134_65 kp_134_45 (Or.inl rfl) rfl (tk_5 hT) ki_20 kcl_20 rfl rfl (by decide) (m_20 (d := d + 1) (kind := 3) (place := v10) hT hI) (kW (fun v11 M12 hI12 fr12 v11p => ?_))
        have hFm12 := hFm.call fr12 rfl
        refine s_pop kx_134_68 rfl ?_
        refine s_iconst (v := (-1)) kx_134_69 (by decide) ?_
        exact s_iret kx_134_70 (Or.inl kq_134) ⟨_, _, rfl, rfl, hI12, hFm12, (by omega)⟩
      · refine s_aload_n kx_134_43 rfl ?_
        refine r_getR (k := t) (f := 12) (k2 := (t + 9)) kx_134_44 kp_134_177 (tkt_0 hT ht) kf_9_12 (by decide) (rqt_12 hI ht) ?_
        refine s_iload_n kx_134_47 rfl ?_
        refine r_aldU (k := (t + 9)) kx_134_48 (tkt_9 hT ht) ⟨by omega, by omega⟩ (fun v13 v13e => ?_)
        refine s_iconst (v := (-1)) kx_134_49 (by decide) ?_
        refine s_icmp_eq (t := 71) kx_134_50 (by decide) (fun hc14 => ?_) (fun hc14 => ?_)
        · refine s_iload_n kx_134_71 rfl ?_
          exact s_iret kx_134_72 (Or.inl kq_134) ⟨_, _, rfl, rfl, hI, hFm, (by omega)⟩
        · refine s_aload_n kx_134_53 rfl ?_
          refine r_getR (k := 3) (f := 1) (k2 := 5) kx_134_54 kp_134_22 (tk_3 hT) kf_10_1 (by decide) (rq_3_1 hI) ?_
          refine s_iconst (v := 3) kx_134_57 (by decide) ?_
          refine s_aload_n kx_134_58 rfl ?_
          refine r_getR (k := 3) (f := 1) (k2 := 5) kx_134_59 kp_134_22 (tk_3 hT) kf_10_1 (by decide) (rq_3_1 hI) ?_
          refine r_getI (k := 5) (f := 5) kx_134_62 kp_134_105 (tk_5 hT) kf_3_5 (fun _ => rfl) (rg_5_5 hI) (fun v15 v15e v15a v15b => ?_)
          refine s_callV2 (k := 5) (s1 := 3) (s2 := 0) (as := [(0, v15), (0, 3)]) (rest := []) kx_134_65 kp_134_45 (Or.inl rfl) rfl (tk_5 hT) ki_20 kcl_20 rfl rfl (by decide) (m_20 (d := d + 1) (kind := 3) (place := v15) hT hI) (kW (fun v16 M17 hI17 fr17 v16p => ?_))
          have hFm17 := hFm.call fr17 rfl
          refine s_pop kx_134_68 rfl ?_
          refine s_iconst (v := (-1)) kx_134_69 (by decide) ?_
          exact s_iret kx_134_70 (Or.inl kq_134) ⟨_, _, rfl, rfl, hI17, hFm17, (by omega)⟩
  · refine s_aload_n kx_134_11 rfl ?_
    refine r_getR (k := 3) (f := 1) (k2 := 5) kx_134_12 kp_134_22 (tk_3 hT) kf_10_1 (by decide) (rq_3_1 hI) ?_
    refine s_callV2 (k := 5) (s1 := 1) (s2 := 0) (as := []) (rest := []) kx_134_15 kp_134_60 (Or.inl rfl) rfl (tk_5 hT) ki_21 kcl_21 rfl rfl (by decide) (m_21 (d := d) hT hI) (kW (fun v18 M19 hI19 fr19 v18p => ?_))
    have hFm19 := hFm.call fr19 rfl
    refine s_pop kx_134_18 rfl ?_
    refine s_iconst (v := (-1)) kx_134_19 (by decide) ?_
    exact s_iret kx_134_20 (Or.inl kq_134) ⟨_, _, rfl, rfl, hI19, hFm19, (by omega)⟩
theorem kx_126_0 : x_code k_P 126 0 = some (.aload_n 0, 1) := by decide +kernel
theorem kx_126_1 : x_code k_P 126 1 = some (.getfield 22, 3) := by decide +kernel
theorem kp_126_22 : x_pool k_P 126 22 = (1, 10, 1) := by decide +kernel
theorem kx_126_4 : x_code k_P 126 4 = some (.ldc 143, 2) := by decide +kernel
theorem kp_126_143 : x_pool k_P 126 143 = (7, 0, 54525952) := by decide +kernel
theorem kx_126_6 : x_code k_P 126 6 = some (.invokevirtual 144, 3) := by decide +kernel
theorem kp_126_144 : x_pool k_P 126 144 = (2, 22, 1) := by decide +kernel
theorem kx_126_9 : x_code k_P 126 9 = some (.ifCond .ne 13, 3) := by decide +kernel
theorem kx_126_22 : x_code k_P 126 22 = some (.aload_n 0, 1) := by decide +kernel
theorem kx_126_23 : x_code k_P 126 23 = some (.getfield 22, 3) := by decide +kernel
theorem kx_126_26 : x_code k_P 126 26 = some (.invokevirtual 49, 3) := by decide +kernel
theorem kp_126_49 : x_pool k_P 126 49 = (2, 26, 0) := by decide +kernel
theorem kx_126_29 : x_code k_P 126 29 = some (.aload_n 0, 1) := by decide +kernel
theorem kx_126_30 : x_code k_P 126 30 = some (.aload_n 1, 1) := by decide +kernel
theorem kx_126_31 : x_code k_P 126 31 = some (.invokevirtual 122, 3) := by decide +kernel
theorem kp_126_122 : x_pool k_P 126 122 = (2, 133, 1) := by decide +kernel
theorem ki_133 : x_mci k_P 133 = 10 := by decide +kernel
theorem kcl_133 : x_maxL k_P 133 ≤ 60 ∧ 2 ≤ x_maxL k_P 133 := by decide +kernel
theorem kx_126_34 : x_code k_P 126 34 = some (.istore_n 3, 1) := by decide +kernel
theorem km_126_3 : 3 < x_maxL k_P 126 := by decide +kernel
theorem kx_126_35 : x_code k_P 126 35 = some (.iload_n 3, 1) := by decide +kernel
theorem kx_126_36 : x_code k_P 126 36 = some (.iconst (-1), 1) := by decide +kernel
theorem kx_126_37 : x_code k_P 126 37 = some (.if_icmp .ne 5, 3) := by decide +kernel
theorem kx_126_42 : x_code k_P 126 42 = some (.aload_n 1, 1) := by decide +kernel
theorem kx_126_43 : x_code k_P 126 43 = some (.iload_n 3, 1) := by decide +kernel
theorem kx_126_44 : x_code k_P 126 44 = some (.iload_n 2, 1) := by decide +kernel
theorem kx_126_45 : x_code k_P 126 45 = some (.invokevirtual 148, 3) := by decide +kernel
theorem kp_126_148 : x_pool k_P 126 148 = (2, 115, 2) := by decide +kernel
theorem ki_115 : x_mci k_P 115 = 9 := by decide +kernel
theorem kcl_115 : x_maxL k_P 115 ≤ 60 ∧ 3 ≤ x_maxL k_P 115 := by decide +kernel
theorem kx_126_48 : x_code k_P 126 48 = some (.ifCond .ne 21, 3) := by decide +kernel
theorem kx_126_69 : x_code k_P 126 69 = some (.aload_n 0, 1) := by decide +kernel
theorem kx_126_70 : x_code k_P 126 70 = some (.getfield 22, 3) := by decide +kernel
theorem kx_126_73 : x_code k_P 126 73 = some (.invokevirtual 49, 3) := by decide +kernel
theorem kx_126_76 : x_code k_P 126 76 = some (.iload_n 3, 1) := by decide +kernel
theorem kx_126_77 : x_code k_P 126 77 = some (.ireturn, 1) := by decide +kernel
theorem kq_126 : x_retk k_P 126 = 1 := by decide +kernel
theorem kx_126_51 : x_code k_P 126 51 = some (.aload_n 0, 1) := by decide +kernel
theorem kx_126_52 : x_code k_P 126 52 = some (.getfield 22, 3) := by decide +kernel
theorem kx_126_55 : x_code k_P 126 55 = some (.iconst 3, 1) := by decide +kernel
theorem kx_126_56 : x_code k_P 126 56 = some (.aload_n 0, 1) := by decide +kernel
theorem kx_126_57 : x_code k_P 126 57 = some (.getfield 22, 3) := by decide +kernel
theorem kx_126_60 : x_code k_P 126 60 = some (.getfield 105, 3) := by decide +kernel
theorem kp_126_105 : x_pool k_P 126 105 = (1, 3, 5) := by decide +kernel
theorem kx_126_63 : x_code k_P 126 63 = some (.invokevirtual 45, 3) := by decide +kernel
theorem kp_126_45 : x_pool k_P 126 45 = (2, 20, 2) := by decide +kernel
theorem kx_126_66 : x_code k_P 126 66 = some (.pop, 1) := by decide +kernel
theorem kx_126_67 : x_code k_P 126 67 = some (.iconst (-1), 1) := by decide +kernel
theorem kx_126_68 : x_code k_P 126 68 = some (.ireturn, 1) := by decide +kernel
theorem kx_126_40 : x_code k_P 126 40 = some (.iconst (-1), 1) := by decide +kernel
theorem kx_126_41 : x_code k_P 126 41 = some (.ireturn, 1) := by decide +kernel
theorem kx_126_12 : x_code k_P 126 12 = some (.aload_n 0, 1) := by decide +kernel
theorem kx_126_13 : x_code k_P 126 13 = some (.getfield 22, 3) := by decide +kernel
theorem kx_126_16 : x_code k_P 126 16 = some (.invokevirtual 60, 3) := by decide +kernel
theorem kp_126_60 : x_pool k_P 126 60 = (2, 21, 0) := by decide +kernel
theorem kx_126_19 : x_code k_P 126 19 = some (.pop, 1) := by decide +kernel
theorem kx_126_20 : x_code k_P 126 20 = some (.iconst (-1), 1) := by decide +kernel
theorem kx_126_21 : x_code k_P 126 21 = some (.ireturn, 1) := by decide +kernel
def fS_126_m : List (Nat × Nat) := [(5, 2), (5, 3), (5, 4), (5, 5), (5, 6), (5, 7)]
theorem m_126 {xs : Nat → Int} {Ln d : Nat} {T : List cK} {M : cM} (hT : TT T) (hI : Rng M) {t : Nat} (ht : t = 8 ∨ t = 25) (h50 : M 5 0 = ((2 : Nat) : Int)) {width : Int} : cC k_P xs Ln (d + 3) 126 [rf 3, rf t, (0, width)] (T, M) (qW T M fS_126_m 0 (fun v M1 => (-1) ≤ v ∧ v ≤ 7)) := by
  show cP k_P xs Ln (d + 3) 126 0 [(0, rf 3), (1, rf t), (2, (0, width))] [] (T, M) _
  have hFm : Fr fS_126_m M M := Fr.refl
  refine s_aload_n kx_126_0 rfl ?_
  refine r_getR (k := 3) (f := 1) (k2 := 5) kx_126_1 kp_126_22 (tk_3 hT) kf_10_1 (by decide) (rq_3_1 hI) ?_
  refine s_ldc kx_126_4 kp_126_143 ?_
  refine s_callV2 (k := 5) (s1 := 2) (s2 := 0) (as := [(0, 54525952)]) (rest := []) kx_126_6 kp_126_144 (Or.inl rfl) rfl (tk_5 hT) ki_22 kcl_22 rfl rfl (by decide) (m_22 (d := d + 2) (w := 54525952) hT hI) (kF (fun v1 v1p => ?_))
  refine s_if_ne (t := 22) kx_126_9 (by decide) (fun hc2 => ?_) (fun hc2 => ?_)
  · replace v1p := v1p.resolve_right (by omega)
    refine s_aload_n kx_126_22 rfl ?_
    refine r_getR (k := 3) (f := 1) (k2 := 5) kx_126_23 kp_126_22 (tk_3 hT) kf_10_1 (by decide) (rq_3_1 hI) ?_
    refine s_callV2 (k := 5) (s1 := 1) (s2 := 0) (as := []) (rest := []) kx_126_26 kp_126_49 (Or.inl rfl) rfl (tk_5 hT) ki_26 kcl_26 rfl rfl (by decide) (m_26 (d := d) hT hI h50) (kV (fun M4 hI4 fr4 v3p => ?_))
    have hFm4 := hFm.call fr4 rfl
    refine s_aload_n kx_126_29 rfl ?_
    refine s_aload_n kx_126_30 rfl ?_
    refine s_callV2 (k := 3) (s1 := 2) (s2 := 0) (as := [rf t]) (rest := []) kx_126_31 kp_126_122 (Or.inl rfl) rfl (tk_3 hT) ki_133 kcl_133 rfl rfl (by decide) (m_133 (d := d) hT hI4 ht) (kW (fun v5 M6 hI6 fr6 v5p => ?_))
    have hFm6 := hFm4.call fr6 rfl
    refine s_istore_n kx_126_34 km_126_3 rfl ?_
    refine s_iload_n kx_126_35 rfl ?_
    refine s_iconst (v := (-1)) kx_126_36 (by decide) ?_
    refine s_icmp_ne (t := 42) kx_126_37 (by decide) (fun hc7 => ?_) (fun hc7 => ?_)
    · refine s_aload_n kx_126_42 rfl ?_
      refine s_iload_n kx_126_43 rfl ?_
      refine s_iload_n kx_126_44 rfl ?_
      refine s_callV2 (k := t) (s1 := 3) (s2 := 0) (as := [(0, width), (0, v5)]) (rest := []) kx_126_45 kp_126_148 (Or.inl rfl) rfl (tkt_0 hT ht) ki_115 kcl_115 rfl rfl (by decide) (m_115 (d := d + 1) (room := v5) (width := width) hT hI6 ht) (kF (fun v8 v8p => ?_))
      refine s_if_ne (t := 69) kx_126_48 (by decide) (fun hc9 => ?_) (fun hc9 => ?_)
      · refine s_aload_n kx_126_69 rfl ?_
        refine r_getR (k := 3) (f := 1) (k2 := 5) kx_126_70 kp_126_22 (tk_3 hT) kf_10_1 (by decide) (rq_3_1 hI6) ?_
        refine s_callV2 (k := 5) (s1 := 1) (s2 := 0) (as := []) (rest := []) kx_126_73 kp_126_49 (Or.inl rfl) rfl (tk_5 hT) ki_26 kcl_26 rfl rfl (by decide) (m_26 (d := d) hT hI6 ((fr6 5 0 rfl).trans ((fr4 5 0 rfl).trans h50))) (kV (fun M11 hI11 fr11 v10p => ?_))
        have hFm11 := hFm6.call fr11 rfl
        refine s_iload_n kx_126_76 rfl ?_
        exact s_iret kx_126_77 (Or.inl kq_126) ⟨_, _, rfl, rfl, hI11, hFm11, (by omega)⟩
      · refine s_aload_n kx_126_51 rfl ?_
        refine r_getR (k := 3) (f := 1) (k2 := 5) kx_126_52 kp_126_22 (tk_3 hT) kf_10_1 (by decide) (rq_3_1 hI6) ?_
        refine s_iconst (v := 3) kx_126_55 (by decide) ?_
        refine s_aload_n kx_126_56 rfl ?_
        refine r_getR (k := 3) (f := 1) (k2 := 5) kx_126_57 kp_126_22 (tk_3 hT) kf_10_1 (by decide) (rq_3_1 hI6) ?_
        refine r_getI (k := 5) (f := 5) kx_126_60 kp_126_105 (tk_5 hT) kf_3_5 (fun _ => rfl) (rg_5_5 hI6) (fun v12 v12e v12a v12b => ?_)
        refine s_callV2 (k := 5) (s1 := 3) (s2 := 0) (as := [(0, v12), (0, 3)]) (rest := []) kx_126_63 kp_126_45 (Or.inl rfl) rfl (tk_5 hT) ki_20 kcl_20 rfl rfl (by decide) (m_20 (d := d + 2) (kind := 3) (place := v12) hT hI6) (kW (fun v13 M14 hI14 fr14 v13p => ?_))
        have hFm14 := hFm6.call fr14 rfl
        refine s_pop kx_126_66 rfl ?_
        refine s_iconst (v := (-1)) kx_126_67 (by decide) ?_
        exact s_iret kx_126_68 (Or.inl kq_126) ⟨_, _, rfl, rfl, hI14, hFm14, (by omega)⟩
    · refine s_iconst (v := (-1)) kx_126_40 (by decide) ?_
      exact s_iret kx_126_41 (Or.inl kq_126) ⟨_, _, rfl, rfl, hI6, hFm6, (by omega)⟩
  · replace v1p := v1p.resolve_left (by omega)
    refine s_aload_n kx_126_12 rfl ?_
    refine r_getR (k := 3) (f := 1) (k2 := 5) kx_126_13 kp_126_22 (tk_3 hT) kf_10_1 (by decide) (rq_3_1 hI) ?_
    refine s_callV2 (k := 5) (s1 := 1) (s2 := 0) (as := []) (rest := []) kx_126_16 kp_126_60 (Or.inl rfl) rfl (tk_5 hT) ki_21 kcl_21 rfl rfl (by decide) (m_21 (d := d + 1) hT hI) (kW (fun v15 M16 hI16 fr16 v15p => ?_))
    have hFm16 := hFm.call fr16 rfl
    refine s_pop kx_126_19 rfl ?_
    refine s_iconst (v := (-1)) kx_126_20 (by decide) ?_
    exact s_iret kx_126_21 (Or.inl kq_126) ⟨_, _, rfl, rfl, hI16, hFm16, (by omega)⟩
theorem kx_123_0 : x_code k_P 123 0 = some (.aload_n 1, 1) := by decide +kernel
theorem kx_123_1 : x_code k_P 123 1 = some (.getfield 102, 3) := by decide +kernel
theorem kp_123_102 : x_pool k_P 123 102 = (1, 9, 0) := by decide +kernel
theorem kx_123_4 : x_code k_P 123 4 = some (.bipush 8, 2) := by decide +kernel
theorem kx_123_6 : x_code k_P 123 6 = some (.if_icmp .lt 20, 3) := by decide +kernel
theorem kx_123_26 : x_code k_P 123 26 = some (.aload_n 0, 1) := by decide +kernel
theorem kx_123_27 : x_code k_P 123 27 = some (.getfield 22, 3) := by decide +kernel
theorem kp_123_22 : x_pool k_P 123 22 = (1, 10, 1) := by decide +kernel
theorem kx_123_30 : x_code k_P 123 30 = some (.invokevirtual 49, 3) := by decide +kernel
theorem kp_123_49 : x_pool k_P 123 49 = (2, 26, 0) := by decide +kernel
theorem kx_123_33 : x_code k_P 123 33 = some (.aload_n 0, 1) := by decide +kernel
theorem kx_123_34 : x_code k_P 123 34 = some (.aload_n 1, 1) := by decide +kernel
theorem kx_123_35 : x_code k_P 123 35 = some (.invokevirtual 108, 3) := by decide +kernel
theorem kp_123_108 : x_pool k_P 123 108 = (2, 132, 1) := by decide +kernel
theorem ki_132 : x_mci k_P 132 = 10 := by decide +kernel
theorem kcl_132 : x_maxL k_P 132 ≤ 60 ∧ 2 ≤ x_maxL k_P 132 := by decide +kernel
theorem kx_123_38 : x_code k_P 123 38 = some (.istore_n 2, 1) := by decide +kernel
theorem km_123_2 : 2 < x_maxL k_P 123 := by decide +kernel
theorem kx_123_39 : x_code k_P 123 39 = some (.iload_n 2, 1) := by decide +kernel
theorem kx_123_40 : x_code k_P 123 40 = some (.iconst (-1), 1) := by decide +kernel
theorem kx_123_41 : x_code k_P 123 41 = some (.if_icmp .ne 5, 3) := by decide +kernel
theorem kx_123_46 : x_code k_P 123 46 = some (.aload_n 0, 1) := by decide +kernel
theorem kx_123_47 : x_code k_P 123 47 = some (.getfield 22, 3) := by decide +kernel
theorem kx_123_50 : x_code k_P 123 50 = some (.invokevirtual 49, 3) := by decide +kernel
theorem kx_123_53 : x_code k_P 123 53 = some (.aload_n 0, 1) := by decide +kernel
theorem kx_123_54 : x_code k_P 123 54 = some (.ldc 112, 2) := by decide +kernel
theorem kp_123_112 : x_pool k_P 123 112 = (7, 0, 150456320) := by decide +kernel
theorem kx_123_56 : x_code k_P 123 56 = some (.iconst 1, 1) := by decide +kernel
theorem kx_123_57 : x_code k_P 123 57 = some (.bipush 9, 2) := by decide +kernel
theorem kx_123_59 : x_code k_P 123 59 = some (.invokevirtual 113, 3) := by decide +kernel
theorem kp_123_113 : x_pool k_P 123 113 = (2, 131, 3) := by decide +kernel
theorem ki_131 : x_mci k_P 131 = 10 := by decide +kernel
theorem kcl_131 : x_maxL k_P 131 ≤ 60 ∧ 4 ≤ x_maxL k_P 131 := by decide +kernel
theorem kx_123_62 : x_code k_P 123 62 = some (.ifCond .ne 5, 3) := by decide +kernel
theorem kx_123_67 : x_code k_P 123 67 = some (.aload_n 0, 1) := by decide +kernel
theorem kx_123_68 : x_code k_P 123 68 = some (.getfield 23, 3) := by decide +kernel
theorem kp_123_23 : x_pool k_P 123 23 = (1, 10, 2) := by decide +kernel
theorem kx_123_71 : x_code k_P 123 71 = some (.istore_n 3, 1) := by decide +kernel
theorem km_123_3 : 3 < x_maxL k_P 123 := by decide +kernel
theorem kx_123_72 : x_code k_P 123 72 = some (.aload_n 0, 1) := by decide +kernel
theorem kx_123_73 : x_code k_P 123 73 = some (.ldc 117, 2) := by decide +kernel
theorem kp_123_117 : x_pool k_P 123 117 = (7, 0, 214416960) := by decide +kernel
theorem kx_123_75 : x_code k_P 123 75 = some (.iconst 1, 1) := by decide +kernel
theorem kx_123_76 : x_code k_P 123 76 = some (.bipush 99, 2) := by decide +kernel
theorem kx_123_78 : x_code k_P 123 78 = some (.invokevirtual 113, 3) := by decide +kernel
theorem kx_123_81 : x_code k_P 123 81 = some (.ifCond .ne 5, 3) := by decide +kernel
theorem kx_123_86 : x_code k_P 123 86 = some (.aload_n 1, 1) := by decide +kernel
theorem kx_123_87 : x_code k_P 123 87 = some (.iload_n 2, 1) := by decide +kernel
theorem kx_123_88 : x_code k_P 123 88 = some (.iload_n 3, 1) := by decide +kernel
theorem kx_123_89 : x_code k_P 123 89 = some (.aload_n 0, 1) := by decide +kernel
theorem kx_123_90 : x_code k_P 123 90 = some (.getfield 23, 3) := by decide +kernel
theorem kx_123_93 : x_code k_P 123 93 = some (.invokevirtual 118, 3) := by decide +kernel
theorem kp_123_118 : x_pool k_P 123 118 = (2, 111, 3) := by decide +kernel
theorem ki_111 : x_mci k_P 111 = 9 := by decide +kernel
theorem kcl_111 : x_maxL k_P 111 ≤ 60 ∧ 4 ≤ x_maxL k_P 111 := by decide +kernel
theorem kx_123_96 : x_code k_P 123 96 = some (.iconst 1, 1) := by decide +kernel
theorem kx_123_97 : x_code k_P 123 97 = some (.ireturn, 1) := by decide +kernel
theorem kq_123 : x_retk k_P 123 = 2 := by decide +kernel
theorem kx_123_84 : x_code k_P 123 84 = some (.iconst 0, 1) := by decide +kernel
theorem kx_123_85 : x_code k_P 123 85 = some (.ireturn, 1) := by decide +kernel
theorem kx_123_65 : x_code k_P 123 65 = some (.iconst 0, 1) := by decide +kernel
theorem kx_123_66 : x_code k_P 123 66 = some (.ireturn, 1) := by decide +kernel
theorem kx_123_44 : x_code k_P 123 44 = some (.iconst 0, 1) := by decide +kernel
theorem kx_123_45 : x_code k_P 123 45 = some (.ireturn, 1) := by decide +kernel
theorem kx_123_9 : x_code k_P 123 9 = some (.aload_n 0, 1) := by decide +kernel
theorem kx_123_10 : x_code k_P 123 10 = some (.getfield 22, 3) := by decide +kernel
theorem kx_123_13 : x_code k_P 123 13 = some (.bipush 6, 2) := by decide +kernel
theorem kx_123_15 : x_code k_P 123 15 = some (.aload_n 0, 1) := by decide +kernel
theorem kx_123_16 : x_code k_P 123 16 = some (.getfield 22, 3) := by decide +kernel
theorem kx_123_19 : x_code k_P 123 19 = some (.getfield 105, 3) := by decide +kernel
theorem kp_123_105 : x_pool k_P 123 105 = (1, 3, 5) := by decide +kernel
theorem kx_123_22 : x_code k_P 123 22 = some (.invokevirtual 45, 3) := by decide +kernel
theorem kp_123_45 : x_pool k_P 123 45 = (2, 20, 2) := by decide +kernel
theorem kx_123_25 : x_code k_P 123 25 = some (.ireturn, 1) := by decide +kernel
def fS_123_m : List (Nat × Nat) := [(10, 99999), (11, 99999), (25, 0), (26, 99999), (27, 99999), (28, 99999), (3, 2), (5, 2), (5, 3), (5, 4), (5, 5), (5, 6), (5, 7), (8, 0), (9, 99999)]
theorem m_123 {xs : Nat → Int} {Ln d : Nat} {T : List cK} {M : cM} (hT : TT T) (hI : Rng M) {t : Nat} (ht : t = 8 ∨ t = 25) (h50 : M 5 0 = ((2 : Nat) : Int)) : cC k_P xs Ln (d + 4) 123 [rf 3, rf t] (T, M) (qW T M fS_123_m 0 (fun v M1 => 0 ≤ v ∧ v ≤ 1)) := by
  show cP k_P xs Ln (d + 4) 123 0 [(0, rf 3), (1, rf t)] [] (T, M) _
  have hFm : Fr fS_123_m M M := Fr.refl
  refine s_aload_n kx_123_0 rfl ?_
  refine r_getI (k := t) (f := 0) kx_123_1 kp_123_102 (tkt_0 hT ht) kf_9_0 (fun _ => rfl) (rgt_0_0 hI ht) (fun v1 v1e v1a v1b => ?_)
  refine s_bipush (v := 8) kx_123_4 (by decide) ?_
  refine s_icmp_lt (t := 26) kx_123_6 (by decide) (fun hc2 => ?_) (fun hc2 => ?_)
  · refine s_aload_n kx_123_26 rfl ?_
    refine r_getR (k := 3) (f := 1) (k2 := 5) kx_123_27 kp_123_22 (tk_3 hT) kf_10_1 (by decide) (rq_3_1 hI) ?_
    refine s_callV2 (k := 5) (s1 := 1) (s2 := 0) (as := []) (rest := []) kx_123_30 kp_123_49 (Or.inl rfl) rfl (tk_5 hT) ki_26 kcl_26 rfl rfl (by decide) (m_26 (d := d + 1) hT hI h50) (kV (fun M4 hI4 fr4 v3p => ?_))
    have hFm4 := hFm.call fr4 rfl
    refine s_aload_n kx_123_33 rfl ?_
    refine s_aload_n kx_123_34 rfl ?_
    refine s_callV2 (k := 3) (s1 := 2) (s2 := 0) (as := [rf t]) (rest := []) kx_123_35 kp_123_108 (Or.inl rfl) rfl (tk_3 hT) ki_132 kcl_132 rfl rfl (by decide) (m_132 (d := d + 1) hT hI4 ht) (kW (fun v5 M6 hI6 fr6 v5p => ?_))
    have hFm6 := hFm4.call fr6 rfl
    refine s_istore_n kx_123_38 km_123_2 rfl ?_
    refine s_iload_n kx_123_39 rfl ?_
    refine s_iconst (v := (-1)) kx_123_40 (by decide) ?_
    refine s_icmp_ne (t := 46) kx_123_41 (by decide) (fun hc7 => ?_) (fun hc7 => ?_)
    · refine s_aload_n kx_123_46 rfl ?_
      refine r_getR (k := 3) (f := 1) (k2 := 5) kx_123_47 kp_123_22 (tk_3 hT) kf_10_1 (by decide) (rq_3_1 hI6) ?_
      refine s_callV2 (k := 5) (s1 := 1) (s2 := 0) (as := []) (rest := []) kx_123_50 kp_123_49 (Or.inl rfl) rfl (tk_5 hT) ki_26 kcl_26 rfl rfl (by decide) (m_26 (d := d + 1) hT hI6 ((fr6 5 0 rfl).trans ((fr4 5 0 rfl).trans h50))) (kV (fun M9 hI9 fr9 v8p => ?_))
      have hFm9 := hFm6.call fr9 rfl
      refine s_aload_n kx_123_53 rfl ?_
      refine s_ldc kx_123_54 kp_123_112 ?_
      refine s_iconst (v := 1) kx_123_56 (by decide) ?_
      refine s_bipush (v := 9) kx_123_57 (by decide) ?_
      refine s_callV2 (k := 3) (s1 := 4) (s2 := 0) (as := [(0, 9), (0, 1), (0, 150456320)]) (rest := []) kx_123_59 kp_123_113 (Or.inl rfl) rfl (tk_3 hT) ki_131 kcl_131 rfl rfl (by decide) (m_131 (d := d) (word := 150456320) (least := 1) (most := 9) hT hI9 ((fr9 5 0 rfl).trans ((fr6 5 0 rfl).trans ((fr4 5 0 rfl).trans h50)))) (kW (fun v10 M11 hI11 fr11 v10p => ?_))
      have hFm11 := hFm9.call fr11 rfl
      refine s_if_ne (t := 67) kx_123_62 (by decide) (fun hc12 => ?_) (fun hc12 => ?_)
      · refine s_aload_n kx_123_67 rfl ?_
        refine r_getU (k := 3) (f := 2) kx_123_68 kp_123_23 (tk_3 hT) kf_10_2 (fun _ => rfl) (fun v13 v13e => ?_)
        refine s_istore_n kx_123_71 km_123_3 rfl ?_
        refine s_aload_n kx_123_72 rfl ?_
        refine s_ldc kx_123_73 kp_123_117 ?_
        refine s_iconst (v := 1) kx_123_75 (by decide) ?_
        refine s_bipush (v := 99) kx_123_76 (by decide) ?_
        refine s_callV2 (k := 3) (s1 := 4) (s2 := 0) (as := [(0, 99), (0, 1), (0, 214416960)]) (rest := []) kx_123_78 kp_123_113 (Or.inl rfl) rfl (tk_3 hT) ki_131 kcl_131 rfl rfl (by decide) (m_131 (d := d) (word := 214416960) (least := 1) (most := 99) hT hI11 ((fr11 5 0 rfl).trans ((fr9 5 0 rfl).trans ((fr6 5 0 rfl).trans ((fr4 5 0 rfl).trans h50))))) (kW (fun v14 M15 hI15 fr15 v14p => ?_))
        have hFm15 := hFm11.call fr15 rfl
        refine s_if_ne (t := 86) kx_123_81 (by decide) (fun hc16 => ?_) (fun hc16 => ?_)
        · refine s_aload_n kx_123_86 rfl ?_
          refine s_iload_n kx_123_87 rfl ?_
          refine s_iload_n kx_123_88 rfl ?_
          refine s_aload_n kx_123_89 rfl ?_
          refine r_getU (k := 3) (f := 2) kx_123_90 kp_123_23 (tk_3 hT) kf_10_2 (fun _ => rfl) (fun v17 v17e => ?_)
          refine s_callV2 (k := t) (s1 := 4) (s2 := 0) (as := [(0, v17), (0, v13), (0, v5)]) (rest := []) kx_123_93 kp_123_118 (Or.inl rfl) rfl (tkt_0 hT ht) ki_111 kcl_111 rfl rfl (by decide) (m_111 (d := d + 3) (name := v5) (door := v13) (floor := v17) hT hI15 ht) (kV (fun M19 hI19 fr19 v18p => ?_))
          have hFm19 := hFm15.call fr19 rfl
          refine s_iconst (v := 1) kx_123_96 (by decide) ?_
          exact s_iret kx_123_97 (Or.inr ⟨kq_123, by omega⟩) ⟨_, _, rfl, rfl, hI19, hFm19, (by omega)⟩
        · refine s_iconst (v := 0) kx_123_84 (by decide) ?_
          exact s_iret kx_123_85 (Or.inr ⟨kq_123, by omega⟩) ⟨_, _, rfl, rfl, hI15, hFm15, (by omega)⟩
      · refine s_iconst (v := 0) kx_123_65 (by decide) ?_
        exact s_iret kx_123_66 (Or.inr ⟨kq_123, by omega⟩) ⟨_, _, rfl, rfl, hI11, hFm11, (by omega)⟩
    · refine s_iconst (v := 0) kx_123_44 (by decide) ?_
      exact s_iret kx_123_45 (Or.inr ⟨kq_123, by omega⟩) ⟨_, _, rfl, rfl, hI6, hFm6, (by omega)⟩
  · refine s_aload_n kx_123_9 rfl ?_
    refine r_getR (k := 3) (f := 1) (k2 := 5) kx_123_10 kp_123_22 (tk_3 hT) kf_10_1 (by decide) (rq_3_1 hI) ?_
    refine s_bipush (v := 6) kx_123_13 (by decide) ?_
    refine s_aload_n kx_123_15 rfl ?_
    refine r_getR (k := 3) (f := 1) (k2 := 5) kx_123_16 kp_123_22 (tk_3 hT) kf_10_1 (by decide) (rq_3_1 hI) ?_
    refine r_getI (k := 5) (f := 5) kx_123_19 kp_123_105 (tk_5 hT) kf_3_5 (fun _ => rfl) (rg_5_5 hI) (fun v20 v20e v20a v20b => ?_)
    refine s_callV2 (k := 5) (s1 := 3) (s2 := 0) (as := [(0, v20), (0, 6)]) (rest := []) kx_123_22 kp_123_45 (Or.inl rfl) rfl (tk_5 hT) ki_20 kcl_20 rfl rfl (by decide) (m_20 (d := d + 3) (kind := 6) (place := v20) hT hI) (kW (fun v21 M22 hI22 fr22 v21p => ?_))
    have hFm22 := hFm.call fr22 rfl
    exact s_iret kx_123_25 (Or.inr ⟨kq_123, by omega⟩) ⟨_, _, rfl, rfl, hI22, hFm22, (by omega)⟩
theorem kx_124_0 : x_code k_P 124 0 = some (.aload_n 0, 1) := by decide +kernel
theorem kx_124_1 : x_code k_P 124 1 = some (.getfield 22, 3) := by decide +kernel
theorem kp_124_22 : x_pool k_P 124 22 = (1, 10, 1) := by decide +kernel
theorem kx_124_4 : x_code k_P 124 4 = some (.invokevirtual 49, 3) := by decide +kernel
theorem kp_124_49 : x_pool k_P 124 49 = (2, 26, 0) := by decide +kernel
theorem kx_124_7 : x_code k_P 124 7 = some (.aload_n 0, 1) := by decide +kernel
theorem kx_124_8 : x_code k_P 124 8 = some (.aload_n 1, 1) := by decide +kernel
theorem kx_124_9 : x_code k_P 124 9 = some (.invokevirtual 122, 3) := by decide +kernel
theorem kp_124_122 : x_pool k_P 124 122 = (2, 133, 1) := by decide +kernel
theorem kx_124_12 : x_code k_P 124 12 = some (.istore_n 2, 1) := by decide +kernel
theorem km_124_2 : 2 < x_maxL k_P 124 := by decide +kernel
theorem kx_124_13 : x_code k_P 124 13 = some (.iload_n 2, 1) := by decide +kernel
theorem kx_124_14 : x_code k_P 124 14 = some (.iconst (-1), 1) := by decide +kernel
theorem kx_124_15 : x_code k_P 124 15 = some (.if_icmp .ne 5, 3) := by decide +kernel
theorem kx_124_20 : x_code k_P 124 20 = some (.aload_n 0, 1) := by decide +kernel
theorem kx_124_21 : x_code k_P 124 21 = some (.getfield 22, 3) := by decide +kernel
theorem kx_124_24 : x_code k_P 124 24 = some (.invokevirtual 49, 3) := by decide +kernel
theorem kx_124_27 : x_code k_P 124 27 = some (.aload_n 0, 1) := by decide +kernel
theorem kx_124_28 : x_code k_P 124 28 = some (.aload_n 1, 1) := by decide +kernel
theorem kx_124_29 : x_code k_P 124 29 = some (.invokevirtual 122, 3) := by decide +kernel
theorem kx_124_32 : x_code k_P 124 32 = some (.istore_n 3, 1) := by decide +kernel
theorem km_124_3 : 3 < x_maxL k_P 124 := by decide +kernel
theorem kx_124_33 : x_code k_P 124 33 = some (.iload_n 3, 1) := by decide +kernel
theorem kx_124_34 : x_code k_P 124 34 = some (.iconst (-1), 1) := by decide +kernel
theorem kx_124_35 : x_code k_P 124 35 = some (.if_icmp .ne 5, 3) := by decide +kernel
theorem kx_124_40 : x_code k_P 124 40 = some (.iload_n 3, 1) := by decide +kernel
theorem kx_124_41 : x_code k_P 124 41 = some (.iload_n 2, 1) := by decide +kernel
theorem kx_124_42 : x_code k_P 124 42 = some (.if_icmp .ne 19, 3) := by decide +kernel
theorem kx_124_61 : x_code k_P 124 61 = some (.aload_n 0, 1) := by decide +kernel
theorem kx_124_62 : x_code k_P 124 62 = some (.getfield 22, 3) := by decide +kernel
theorem kx_124_65 : x_code k_P 124 65 = some (.invokevirtual 49, 3) := by decide +kernel
theorem kx_124_68 : x_code k_P 124 68 = some (.aload_n 0, 1) := by decide +kernel
theorem kx_124_69 : x_code k_P 124 69 = some (.ldc 125, 2) := by decide +kernel
theorem kp_124_125 : x_pool k_P 124 125 = (7, 0, 672503392) := by decide +kernel
theorem kx_124_71 : x_code k_P 124 71 = some (.iconst 1, 1) := by decide +kernel
theorem kx_124_72 : x_code k_P 124 72 = some (.bipush 60, 2) := by decide +kernel
theorem kx_124_74 : x_code k_P 124 74 = some (.invokevirtual 113, 3) := by decide +kernel
theorem kp_124_113 : x_pool k_P 124 113 = (2, 131, 3) := by decide +kernel
theorem kx_124_77 : x_code k_P 124 77 = some (.ifCond .ne 5, 3) := by decide +kernel
theorem kx_124_82 : x_code k_P 124 82 = some (.aload_n 1, 1) := by decide +kernel
theorem kx_124_83 : x_code k_P 124 83 = some (.iload_n 2, 1) := by decide +kernel
theorem kx_124_84 : x_code k_P 124 84 = some (.iload_n 3, 1) := by decide +kernel
theorem kx_124_85 : x_code k_P 124 85 = some (.aload_n 0, 1) := by decide +kernel
theorem kx_124_86 : x_code k_P 124 86 = some (.getfield 23, 3) := by decide +kernel
theorem kp_124_23 : x_pool k_P 124 23 = (1, 10, 2) := by decide +kernel
theorem kx_124_89 : x_code k_P 124 89 = some (.invokevirtual 126, 3) := by decide +kernel
theorem kp_124_126 : x_pool k_P 124 126 = (2, 112, 3) := by decide +kernel
theorem ki_112 : x_mci k_P 112 = 9 := by decide +kernel
theorem kcl_112 : x_maxL k_P 112 ≤ 60 ∧ 4 ≤ x_maxL k_P 112 := by decide +kernel
theorem kx_124_92 : x_code k_P 124 92 = some (.iconst 1, 1) := by decide +kernel
theorem kx_124_93 : x_code k_P 124 93 = some (.ireturn, 1) := by decide +kernel
theorem kq_124 : x_retk k_P 124 = 2 := by decide +kernel
theorem kx_124_80 : x_code k_P 124 80 = some (.iconst 0, 1) := by decide +kernel
theorem kx_124_81 : x_code k_P 124 81 = some (.ireturn, 1) := by decide +kernel
theorem kx_124_45 : x_code k_P 124 45 = some (.aload_n 0, 1) := by decide +kernel
theorem kx_124_46 : x_code k_P 124 46 = some (.getfield 22, 3) := by decide +kernel
theorem kx_124_49 : x_code k_P 124 49 = some (.iconst 3, 1) := by decide +kernel
theorem kx_124_50 : x_code k_P 124 50 = some (.aload_n 0, 1) := by decide +kernel
theorem kx_124_51 : x_code k_P 124 51 = some (.getfield 22, 3) := by decide +kernel
theorem kx_124_54 : x_code k_P 124 54 = some (.getfield 105, 3) := by decide +kernel
theorem kp_124_105 : x_pool k_P 124 105 = (1, 3, 5) := by decide +kernel
theorem kx_124_57 : x_code k_P 124 57 = some (.invokevirtual 45, 3) := by decide +kernel
theorem kp_124_45 : x_pool k_P 124 45 = (2, 20, 2) := by decide +kernel
theorem kx_124_60 : x_code k_P 124 60 = some (.ireturn, 1) := by decide +kernel
theorem kx_124_38 : x_code k_P 124 38 = some (.iconst 0, 1) := by decide +kernel
theorem kx_124_39 : x_code k_P 124 39 = some (.ireturn, 1) := by decide +kernel
theorem kx_124_18 : x_code k_P 124 18 = some (.iconst 0, 1) := by decide +kernel
theorem kx_124_19 : x_code k_P 124 19 = some (.ireturn, 1) := by decide +kernel
def fS_124_m : List (Nat × Nat) := [(12, 99999), (29, 99999), (3, 2), (5, 2), (5, 3), (5, 4), (5, 5), (5, 6), (5, 7)]
theorem m_124 {xs : Nat → Int} {Ln d : Nat} {T : List cK} {M : cM} (hT : TT T) (hI : Rng M) {t : Nat} (ht : t = 8 ∨ t = 25) (h50 : M 5 0 = ((2 : Nat) : Int)) : cC k_P xs Ln (d + 4) 124 [rf 3, rf t] (T, M) (qW T M fS_124_m 0 (fun v M1 => 0 ≤ v ∧ v ≤ 1)) := by
  show cP k_P xs Ln (d + 4) 124 0 [(0, rf 3), (1, rf t)] [] (T, M) _
  have hFm : Fr fS_124_m M M := Fr.refl
  refine s_aload_n kx_124_0 rfl ?_
  refine r_getR (k := 3) (f := 1) (k2 := 5) kx_124_1 kp_124_22 (tk_3 hT) kf_10_1 (by decide) (rq_3_1 hI) ?_
  refine s_callV2 (k := 5) (s1 := 1) (s2 := 0) (as := []) (rest := []) kx_124_4 kp_124_49 (Or.inl rfl) rfl (tk_5 hT) ki_26 kcl_26 rfl rfl (by decide) (m_26 (d := d + 1) hT hI h50) (kV (fun M2 hI2 fr2 v1p => ?_))
  have hFm2 := hFm.call fr2 rfl
  refine s_aload_n kx_124_7 rfl ?_
  refine s_aload_n kx_124_8 rfl ?_
  refine s_callV2 (k := 3) (s1 := 2) (s2 := 0) (as := [rf t]) (rest := []) kx_124_9 kp_124_122 (Or.inl rfl) rfl (tk_3 hT) ki_133 kcl_133 rfl rfl (by decide) (m_133 (d := d + 1) hT hI2 ht) (kW (fun v3 M4 hI4 fr4 v3p => ?_))
  have hFm4 := hFm2.call fr4 rfl
  refine s_istore_n kx_124_12 km_124_2 rfl ?_
  refine s_iload_n kx_124_13 rfl ?_
  refine s_iconst (v := (-1)) kx_124_14 (by decide) ?_
  refine s_icmp_ne (t := 20) kx_124_15 (by decide) (fun hc5 => ?_) (fun hc5 => ?_)
  · refine s_aload_n kx_124_20 rfl ?_
    refine r_getR (k := 3) (f := 1) (k2 := 5) kx_124_21 kp_124_22 (tk_3 hT) kf_10_1 (by decide) (rq_3_1 hI4) ?_
    refine s_callV2 (k := 5) (s1 := 1) (s2 := 0) (as := []) (rest := []) kx_124_24 kp_124_49 (Or.inl rfl) rfl (tk_5 hT) ki_26 kcl_26 rfl rfl (by decide) (m_26 (d := d + 1) hT hI4 ((fr4 5 0 rfl).trans ((fr2 5 0 rfl).trans h50))) (kV (fun M7 hI7 fr7 v6p => ?_))
    have hFm7 := hFm4.call fr7 rfl
    refine s_aload_n kx_124_27 rfl ?_
    refine s_aload_n kx_124_28 rfl ?_
    refine s_callV2 (k := 3) (s1 := 2) (s2 := 0) (as := [rf t]) (rest := []) kx_124_29 kp_124_122 (Or.inl rfl) rfl (tk_3 hT) ki_133 kcl_133 rfl rfl (by decide) (m_133 (d := d + 1) hT hI7 ht) (kW (fun v8 M9 hI9 fr9 v8p => ?_))
    have hFm9 := hFm7.call fr9 rfl
    refine s_istore_n kx_124_32 km_124_3 rfl ?_
    refine s_iload_n kx_124_33 rfl ?_
    refine s_iconst (v := (-1)) kx_124_34 (by decide) ?_
    refine s_icmp_ne (t := 40) kx_124_35 (by decide) (fun hc10 => ?_) (fun hc10 => ?_)
    · refine s_iload_n kx_124_40 rfl ?_
      refine s_iload_n kx_124_41 rfl ?_
      refine s_icmp_ne (t := 61) kx_124_42 (by decide) (fun hc11 => ?_) (fun hc11 => ?_)
      · refine s_aload_n kx_124_61 rfl ?_
        refine r_getR (k := 3) (f := 1) (k2 := 5) kx_124_62 kp_124_22 (tk_3 hT) kf_10_1 (by decide) (rq_3_1 hI9) ?_
        refine s_callV2 (k := 5) (s1 := 1) (s2 := 0) (as := []) (rest := []) kx_124_65 kp_124_49 (Or.inl rfl) rfl (tk_5 hT) ki_26 kcl_26 rfl rfl (by decide) (m_26 (d := d + 1) hT hI9 ((fr9 5 0 rfl).trans ((fr7 5 0 rfl).trans ((fr4 5 0 rfl).trans ((fr2 5 0 rfl).trans h50))))) (kV (fun M13 hI13 fr13 v12p => ?_))
        have hFm13 := hFm9.call fr13 rfl
        refine s_aload_n kx_124_68 rfl ?_
        refine s_ldc kx_124_69 kp_124_125 ?_
        refine s_iconst (v := 1) kx_124_71 (by decide) ?_
        refine s_bipush (v := 60) kx_124_72 (by decide) ?_
        refine s_callV2 (k := 3) (s1 := 4) (s2 := 0) (as := [(0, 60), (0, 1), (0, 672503392)]) (rest := []) kx_124_74 kp_124_113 (Or.inl rfl) rfl (tk_3 hT) ki_131 kcl_131 rfl rfl (by decide) (m_131 (d := d) (word := 672503392) (least := 1) (most := 60) hT hI13 ((fr13 5 0 rfl).trans ((fr9 5 0 rfl).trans ((fr7 5 0 rfl).trans ((fr4 5 0 rfl).trans ((fr2 5 0 rfl).trans h50)))))) (kW (fun v14 M15 hI15 fr15 v14p => ?_))
        have hFm15 := hFm13.call fr15 rfl
        refine s_if_ne (t := 82) kx_124_77 (by decide) (fun hc16 => ?_) (fun hc16 => ?_)
        · refine s_aload_n kx_124_82 rfl ?_
          refine s_iload_n kx_124_83 rfl ?_
          refine s_iload_n kx_124_84 rfl ?_
          refine s_aload_n kx_124_85 rfl ?_
          refine r_getU (k := 3) (f := 2) kx_124_86 kp_124_23 (tk_3 hT) kf_10_2 (fun _ => rfl) (fun v17 v17e => ?_)
          refine s_callV2 (k := t) (s1 := 4) (s2 := 0) (as := [(0, v17), (0, v8), (0, v3)]) (rest := []) kx_124_89 kp_124_126 (Or.inl rfl) rfl (tkt_0 hT ht) ki_112 kcl_112 rfl rfl (by decide) (m_112 (d := d + 2) (from_ := v3) (to := v8) (mins := v17) hT hI15 ht) (kV (fun M19 hI19 fr19 v18p => ?_))
          have hFm19 := hFm15.call fr19 rfl
          refine s_iconst (v := 1) kx_124_92 (by decide) ?_
          exact s_iret kx_124_93 (Or.inr ⟨kq_124, by omega⟩) ⟨_, _, rfl, rfl, hI19, hFm19, (by omega)⟩
        · refine s_iconst (v := 0) kx_124_80 (by decide) ?_
          exact s_iret kx_124_81 (Or.inr ⟨kq_124, by omega⟩) ⟨_, _, rfl, rfl, hI15, hFm15, (by omega)⟩
      · refine s_aload_n kx_124_45 rfl ?_
        refine r_getR (k := 3) (f := 1) (k2 := 5) kx_124_46 kp_124_22 (tk_3 hT) kf_10_1 (by decide) (rq_3_1 hI9) ?_
        refine s_iconst (v := 3) kx_124_49 (by decide) ?_
        refine s_aload_n kx_124_50 rfl ?_
        refine r_getR (k := 3) (f := 1) (k2 := 5) kx_124_51 kp_124_22 (tk_3 hT) kf_10_1 (by decide) (rq_3_1 hI9) ?_
        refine r_getI (k := 5) (f := 5) kx_124_54 kp_124_105 (tk_5 hT) kf_3_5 (fun _ => rfl) (rg_5_5 hI9) (fun v20 v20e v20a v20b => ?_)
        refine s_callV2 (k := 5) (s1 := 3) (s2 := 0) (as := [(0, v20), (0, 3)]) (rest := []) kx_124_57 kp_124_45 (Or.inl rfl) rfl (tk_5 hT) ki_20 kcl_20 rfl rfl (by decide) (m_20 (d := d + 3) (kind := 3) (place := v20) hT hI9) (kW (fun v21 M22 hI22 fr22 v21p => ?_))
        have hFm22 := hFm9.call fr22 rfl
        exact s_iret kx_124_60 (Or.inr ⟨kq_124, by omega⟩) ⟨_, _, rfl, rfl, hI22, hFm22, (by omega)⟩
    · refine s_iconst (v := 0) kx_124_38 (by decide) ?_
      exact s_iret kx_124_39 (Or.inr ⟨kq_124, by omega⟩) ⟨_, _, rfl, rfl, hI9, hFm9, (by omega)⟩
  · refine s_iconst (v := 0) kx_124_18 (by decide) ?_
    exact s_iret kx_124_19 (Or.inr ⟨kq_124, by omega⟩) ⟨_, _, rfl, rfl, hI4, hFm4, (by omega)⟩
theorem kx_125_0 : x_code k_P 125 0 = some (.aload_n 1, 1) := by decide +kernel
theorem kx_125_1 : x_code k_P 125 1 = some (.getfield 129, 3) := by decide +kernel
theorem kp_125_129 : x_pool k_P 125 129 = (1, 9, 1) := by decide +kernel
theorem kx_125_4 : x_code k_P 125 4 = some (.bipush 8, 2) := by decide +kernel
theorem kx_125_6 : x_code k_P 125 6 = some (.if_icmp .lt 20, 3) := by decide +kernel
theorem kx_125_26 : x_code k_P 125 26 = some (.aload_n 0, 1) := by decide +kernel
theorem kx_125_27 : x_code k_P 125 27 = some (.getfield 22, 3) := by decide +kernel
theorem kp_125_22 : x_pool k_P 125 22 = (1, 10, 1) := by decide +kernel
theorem kx_125_30 : x_code k_P 125 30 = some (.invokevirtual 49, 3) := by decide +kernel
theorem kp_125_49 : x_pool k_P 125 49 = (2, 26, 0) := by decide +kernel
theorem kx_125_33 : x_code k_P 125 33 = some (.aload_n 0, 1) := by decide +kernel
theorem kx_125_34 : x_code k_P 125 34 = some (.aload_n 1, 1) := by decide +kernel
theorem kx_125_35 : x_code k_P 125 35 = some (.invokevirtual 108, 3) := by decide +kernel
theorem kp_125_108 : x_pool k_P 125 108 = (2, 132, 1) := by decide +kernel
theorem kx_125_38 : x_code k_P 125 38 = some (.istore_n 2, 1) := by decide +kernel
theorem km_125_2 : 2 < x_maxL k_P 125 := by decide +kernel
theorem kx_125_39 : x_code k_P 125 39 = some (.iload_n 2, 1) := by decide +kernel
theorem kx_125_40 : x_code k_P 125 40 = some (.iconst (-1), 1) := by decide +kernel
theorem kx_125_41 : x_code k_P 125 41 = some (.if_icmp .ne 5, 3) := by decide +kernel
theorem kx_125_46 : x_code k_P 125 46 = some (.aload_n 0, 1) := by decide +kernel
theorem kx_125_47 : x_code k_P 125 47 = some (.getfield 22, 3) := by decide +kernel
theorem kx_125_50 : x_code k_P 125 50 = some (.invokevirtual 49, 3) := by decide +kernel
theorem kx_125_53 : x_code k_P 125 53 = some (.aload_n 0, 1) := by decide +kernel
theorem kx_125_54 : x_code k_P 125 54 = some (.ldc 132, 2) := by decide +kernel
theorem kp_125_132 : x_pool k_P 125 132 = (7, 0, 659111367) := by decide +kernel
theorem kx_125_56 : x_code k_P 125 56 = some (.iconst 1, 1) := by decide +kernel
theorem kx_125_57 : x_code k_P 125 57 = some (.bipush 99, 2) := by decide +kernel
theorem kx_125_59 : x_code k_P 125 59 = some (.invokevirtual 113, 3) := by decide +kernel
theorem kp_125_113 : x_pool k_P 125 113 = (2, 131, 3) := by decide +kernel
theorem kx_125_62 : x_code k_P 125 62 = some (.ifCond .ne 5, 3) := by decide +kernel
theorem kx_125_67 : x_code k_P 125 67 = some (.aload_n 0, 1) := by decide +kernel
theorem kx_125_68 : x_code k_P 125 68 = some (.getfield 23, 3) := by decide +kernel
theorem kp_125_23 : x_pool k_P 125 23 = (1, 10, 2) := by decide +kernel
theorem kx_125_71 : x_code k_P 125 71 = some (.istore_n 3, 1) := by decide +kernel
theorem km_125_3 : 3 < x_maxL k_P 125 := by decide +kernel
theorem kx_125_72 : x_code k_P 125 72 = some (.aload_n 0, 1) := by decide +kernel
theorem kx_125_73 : x_code k_P 125 73 = some (.ldc 133, 2) := by decide +kernel
theorem kp_125_133 : x_pool k_P 125 133 = (7, 0, 109094464) := by decide +kernel
theorem kx_125_75 : x_code k_P 125 75 = some (.iconst 1, 1) := by decide +kernel
theorem kx_125_76 : x_code k_P 125 76 = some (.bipush 99, 2) := by decide +kernel
theorem kx_125_78 : x_code k_P 125 78 = some (.invokevirtual 113, 3) := by decide +kernel
theorem kx_125_81 : x_code k_P 125 81 = some (.ifCond .ne 5, 3) := by decide +kernel
theorem kx_125_86 : x_code k_P 125 86 = some (.aload_n 0, 1) := by decide +kernel
theorem kx_125_87 : x_code k_P 125 87 = some (.getfield 23, 3) := by decide +kernel
theorem kx_125_90 : x_code k_P 125 90 = some (.istore 4, 2) := by decide +kernel
theorem km_125_4 : 4 < x_maxL k_P 125 := by decide +kernel
theorem kx_125_92 : x_code k_P 125 92 = some (.aload_n 0, 1) := by decide +kernel
theorem kx_125_93 : x_code k_P 125 93 = some (.ldc 134, 2) := by decide +kernel
theorem kp_125_134 : x_pool k_P 125 134 = (7, 0, 781325312) := by decide +kernel
theorem kx_125_95 : x_code k_P 125 95 = some (.iconst 1, 1) := by decide +kernel
theorem kx_125_96 : x_code k_P 125 96 = some (.bipush 9, 2) := by decide +kernel
theorem kx_125_98 : x_code k_P 125 98 = some (.invokevirtual 113, 3) := by decide +kernel
theorem kx_125_101 : x_code k_P 125 101 = some (.ifCond .ne 5, 3) := by decide +kernel
theorem kx_125_106 : x_code k_P 125 106 = some (.aload_n 0, 1) := by decide +kernel
theorem kx_125_107 : x_code k_P 125 107 = some (.getfield 23, 3) := by decide +kernel
theorem kx_125_110 : x_code k_P 125 110 = some (.istore 5, 2) := by decide +kernel
theorem km_125_5 : 5 < x_maxL k_P 125 := by decide +kernel
theorem kx_125_112 : x_code k_P 125 112 = some (.aload_n 0, 1) := by decide +kernel
theorem kx_125_113 : x_code k_P 125 113 = some (.aload_n 1, 1) := by decide +kernel
theorem kx_125_114 : x_code k_P 125 114 = some (.iload 5, 2) := by decide +kernel
theorem kx_125_116 : x_code k_P 125 116 = some (.invokevirtual 135, 3) := by decide +kernel
theorem kp_125_135 : x_pool k_P 125 135 = (2, 126, 2) := by decide +kernel
theorem ki_126 : x_mci k_P 126 = 10 := by decide +kernel
theorem kcl_126 : x_maxL k_P 126 ≤ 60 ∧ 3 ≤ x_maxL k_P 126 := by decide +kernel
theorem kx_125_119 : x_code k_P 125 119 = some (.istore 6, 2) := by decide +kernel
theorem km_125_6 : 6 < x_maxL k_P 125 := by decide +kernel
theorem kx_125_121 : x_code k_P 125 121 = some (.iload 6, 2) := by decide +kernel
theorem kx_125_123 : x_code k_P 125 123 = some (.iconst (-1), 1) := by decide +kernel
theorem kx_125_124 : x_code k_P 125 124 = some (.if_icmp .ne 5, 3) := by decide +kernel
theorem kx_125_129 : x_code k_P 125 129 = some (.aload_n 1, 1) := by decide +kernel
theorem kx_125_130 : x_code k_P 125 130 = some (.iload_n 2, 1) := by decide +kernel
theorem kx_125_131 : x_code k_P 125 131 = some (.iload_n 3, 1) := by decide +kernel
theorem kx_125_132 : x_code k_P 125 132 = some (.iload 4, 2) := by decide +kernel
theorem kx_125_134 : x_code k_P 125 134 = some (.iload 5, 2) := by decide +kernel
theorem kx_125_136 : x_code k_P 125 136 = some (.iload 6, 2) := by decide +kernel
theorem kx_125_138 : x_code k_P 125 138 = some (.invokevirtual 139, 3) := by decide +kernel
theorem kp_125_139 : x_pool k_P 125 139 = (2, 113, 5) := by decide +kernel
theorem ki_113 : x_mci k_P 113 = 9 := by decide +kernel
theorem kcl_113 : x_maxL k_P 113 ≤ 60 ∧ 6 ≤ x_maxL k_P 113 := by decide +kernel
theorem kx_125_141 : x_code k_P 125 141 = some (.iconst 1, 1) := by decide +kernel
theorem kx_125_142 : x_code k_P 125 142 = some (.ireturn, 1) := by decide +kernel
theorem kq_125 : x_retk k_P 125 = 2 := by decide +kernel
theorem kx_125_127 : x_code k_P 125 127 = some (.iconst 0, 1) := by decide +kernel
theorem kx_125_128 : x_code k_P 125 128 = some (.ireturn, 1) := by decide +kernel
theorem kx_125_104 : x_code k_P 125 104 = some (.iconst 0, 1) := by decide +kernel
theorem kx_125_105 : x_code k_P 125 105 = some (.ireturn, 1) := by decide +kernel
theorem kx_125_84 : x_code k_P 125 84 = some (.iconst 0, 1) := by decide +kernel
theorem kx_125_85 : x_code k_P 125 85 = some (.ireturn, 1) := by decide +kernel
theorem kx_125_65 : x_code k_P 125 65 = some (.iconst 0, 1) := by decide +kernel
theorem kx_125_66 : x_code k_P 125 66 = some (.ireturn, 1) := by decide +kernel
theorem kx_125_44 : x_code k_P 125 44 = some (.iconst 0, 1) := by decide +kernel
theorem kx_125_45 : x_code k_P 125 45 = some (.ireturn, 1) := by decide +kernel
theorem kx_125_9 : x_code k_P 125 9 = some (.aload_n 0, 1) := by decide +kernel
theorem kx_125_10 : x_code k_P 125 10 = some (.getfield 22, 3) := by decide +kernel
theorem kx_125_13 : x_code k_P 125 13 = some (.bipush 6, 2) := by decide +kernel
theorem kx_125_15 : x_code k_P 125 15 = some (.aload_n 0, 1) := by decide +kernel
theorem kx_125_16 : x_code k_P 125 16 = some (.getfield 22, 3) := by decide +kernel
theorem kx_125_19 : x_code k_P 125 19 = some (.getfield 105, 3) := by decide +kernel
theorem kp_125_105 : x_pool k_P 125 105 = (1, 3, 5) := by decide +kernel
theorem kx_125_22 : x_code k_P 125 22 = some (.invokevirtual 45, 3) := by decide +kernel
theorem kp_125_45 : x_pool k_P 125 45 = (2, 20, 2) := by decide +kernel
theorem kx_125_25 : x_code k_P 125 25 = some (.ireturn, 1) := by decide +kernel
def fS_125_m : List (Nat × Nat) := [(13, 99999), (14, 99999), (15, 99999), (16, 99999), (17, 99999), (18, 99999), (25, 1), (3, 2), (30, 99999), (31, 99999), (32, 99999), (33, 99999), (34, 99999), (35, 99999), (5, 2), (5, 3), (5, 4), (5, 5), (5, 6), (5, 7), (8, 1)]
theorem m_125 {xs : Nat → Int} {Ln d : Nat} {T : List cK} {M : cM} (hT : TT T) (hI : Rng M) {t : Nat} (ht : t = 8 ∨ t = 25) (h50 : M 5 0 = ((2 : Nat) : Int)) : cC k_P xs Ln (d + 4) 125 [rf 3, rf t] (T, M) (qW T M fS_125_m 0 (fun v M1 => 0 ≤ v ∧ v ≤ 1)) := by
  show cP k_P xs Ln (d + 4) 125 0 [(0, rf 3), (1, rf t)] [] (T, M) _
  have hFm : Fr fS_125_m M M := Fr.refl
  refine s_aload_n kx_125_0 rfl ?_
  refine r_getI (k := t) (f := 1) kx_125_1 kp_125_129 (tkt_0 hT ht) kf_9_1 (fun _ => rfl) (rgt_0_1 hI ht) (fun v1 v1e v1a v1b => ?_)
  refine s_bipush (v := 8) kx_125_4 (by decide) ?_
  refine s_icmp_lt (t := 26) kx_125_6 (by decide) (fun hc2 => ?_) (fun hc2 => ?_)
  · refine s_aload_n kx_125_26 rfl ?_
    refine r_getR (k := 3) (f := 1) (k2 := 5) kx_125_27 kp_125_22 (tk_3 hT) kf_10_1 (by decide) (rq_3_1 hI) ?_
    refine s_callV2 (k := 5) (s1 := 1) (s2 := 0) (as := []) (rest := []) kx_125_30 kp_125_49 (Or.inl rfl) rfl (tk_5 hT) ki_26 kcl_26 rfl rfl (by decide) (m_26 (d := d + 1) hT hI h50) (kV (fun M4 hI4 fr4 v3p => ?_))
    have hFm4 := hFm.call fr4 rfl
    refine s_aload_n kx_125_33 rfl ?_
    refine s_aload_n kx_125_34 rfl ?_
    refine s_callV2 (k := 3) (s1 := 2) (s2 := 0) (as := [rf t]) (rest := []) kx_125_35 kp_125_108 (Or.inl rfl) rfl (tk_3 hT) ki_132 kcl_132 rfl rfl (by decide) (m_132 (d := d + 1) hT hI4 ht) (kW (fun v5 M6 hI6 fr6 v5p => ?_))
    have hFm6 := hFm4.call fr6 rfl
    refine s_istore_n kx_125_38 km_125_2 rfl ?_
    refine s_iload_n kx_125_39 rfl ?_
    refine s_iconst (v := (-1)) kx_125_40 (by decide) ?_
    refine s_icmp_ne (t := 46) kx_125_41 (by decide) (fun hc7 => ?_) (fun hc7 => ?_)
    · refine s_aload_n kx_125_46 rfl ?_
      refine r_getR (k := 3) (f := 1) (k2 := 5) kx_125_47 kp_125_22 (tk_3 hT) kf_10_1 (by decide) (rq_3_1 hI6) ?_
      refine s_callV2 (k := 5) (s1 := 1) (s2 := 0) (as := []) (rest := []) kx_125_50 kp_125_49 (Or.inl rfl) rfl (tk_5 hT) ki_26 kcl_26 rfl rfl (by decide) (m_26 (d := d + 1) hT hI6 ((fr6 5 0 rfl).trans ((fr4 5 0 rfl).trans h50))) (kV (fun M9 hI9 fr9 v8p => ?_))
      have hFm9 := hFm6.call fr9 rfl
      refine s_aload_n kx_125_53 rfl ?_
      refine s_ldc kx_125_54 kp_125_132 ?_
      refine s_iconst (v := 1) kx_125_56 (by decide) ?_
      refine s_bipush (v := 99) kx_125_57 (by decide) ?_
      refine s_callV2 (k := 3) (s1 := 4) (s2 := 0) (as := [(0, 99), (0, 1), (0, 659111367)]) (rest := []) kx_125_59 kp_125_113 (Or.inl rfl) rfl (tk_3 hT) ki_131 kcl_131 rfl rfl (by decide) (m_131 (d := d) (word := 659111367) (least := 1) (most := 99) hT hI9 ((fr9 5 0 rfl).trans ((fr6 5 0 rfl).trans ((fr4 5 0 rfl).trans h50)))) (kW (fun v10 M11 hI11 fr11 v10p => ?_))
      have hFm11 := hFm9.call fr11 rfl
      refine s_if_ne (t := 67) kx_125_62 (by decide) (fun hc12 => ?_) (fun hc12 => ?_)
      · refine s_aload_n kx_125_67 rfl ?_
        refine r_getU (k := 3) (f := 2) kx_125_68 kp_125_23 (tk_3 hT) kf_10_2 (fun _ => rfl) (fun v13 v13e => ?_)
        refine s_istore_n kx_125_71 km_125_3 rfl ?_
        refine s_aload_n kx_125_72 rfl ?_
        refine s_ldc kx_125_73 kp_125_133 ?_
        refine s_iconst (v := 1) kx_125_75 (by decide) ?_
        refine s_bipush (v := 99) kx_125_76 (by decide) ?_
        refine s_callV2 (k := 3) (s1 := 4) (s2 := 0) (as := [(0, 99), (0, 1), (0, 109094464)]) (rest := []) kx_125_78 kp_125_113 (Or.inl rfl) rfl (tk_3 hT) ki_131 kcl_131 rfl rfl (by decide) (m_131 (d := d) (word := 109094464) (least := 1) (most := 99) hT hI11 ((fr11 5 0 rfl).trans ((fr9 5 0 rfl).trans ((fr6 5 0 rfl).trans ((fr4 5 0 rfl).trans h50))))) (kW (fun v14 M15 hI15 fr15 v14p => ?_))
        have hFm15 := hFm11.call fr15 rfl
        refine s_if_ne (t := 86) kx_125_81 (by decide) (fun hc16 => ?_) (fun hc16 => ?_)
        · refine s_aload_n kx_125_86 rfl ?_
          refine r_getU (k := 3) (f := 2) kx_125_87 kp_125_23 (tk_3 hT) kf_10_2 (fun _ => rfl) (fun v17 v17e => ?_)
          refine s_istore kx_125_90 km_125_4 rfl ?_
          refine s_aload_n kx_125_92 rfl ?_
          refine s_ldc kx_125_93 kp_125_134 ?_
          refine s_iconst (v := 1) kx_125_95 (by decide) ?_
          refine s_bipush (v := 9) kx_125_96 (by decide) ?_
          refine s_callV2 (k := 3) (s1 := 4) (s2 := 0) (as := [(0, 9), (0, 1), (0, 781325312)]) (rest := []) kx_125_98 kp_125_113 (Or.inl rfl) rfl (tk_3 hT) ki_131 kcl_131 rfl rfl (by decide) (m_131 (d := d) (word := 781325312) (least := 1) (most := 9) hT hI15 ((fr15 5 0 rfl).trans ((fr11 5 0 rfl).trans ((fr9 5 0 rfl).trans ((fr6 5 0 rfl).trans ((fr4 5 0 rfl).trans h50)))))) (kW (fun v18 M19 hI19 fr19 v18p => ?_))
          have hFm19 := hFm15.call fr19 rfl
          refine s_if_ne (t := 106) kx_125_101 (by decide) (fun hc20 => ?_) (fun hc20 => ?_)
          · refine s_aload_n kx_125_106 rfl ?_
            refine r_getU (k := 3) (f := 2) kx_125_107 kp_125_23 (tk_3 hT) kf_10_2 (fun _ => rfl) (fun v21 v21e => ?_)
            refine s_istore kx_125_110 km_125_5 rfl ?_
            refine s_aload_n kx_125_112 rfl ?_
            refine s_aload_n kx_125_113 rfl ?_
            refine s_iload kx_125_114 rfl ?_
            refine s_callV2 (k := 3) (s1 := 3) (s2 := 0) (as := [(0, v21), rf t]) (rest := []) kx_125_116 kp_125_135 (Or.inl rfl) rfl (tk_3 hT) ki_126 kcl_126 rfl rfl (by decide) (m_126 (d := d) (width := v21) hT hI19 ht ((fr19 5 0 rfl).trans ((fr15 5 0 rfl).trans ((fr11 5 0 rfl).trans ((fr9 5 0 rfl).trans ((fr6 5 0 rfl).trans ((fr4 5 0 rfl).trans h50))))))) (kW (fun v22 M23 hI23 fr23 v22p => ?_))
            have hFm23 := hFm19.call fr23 rfl
            refine s_istore kx_125_119 km_125_6 rfl ?_
            refine s_iload kx_125_121 rfl ?_
            refine s_iconst (v := (-1)) kx_125_123 (by decide) ?_
            refine s_icmp_ne (t := 129) kx_125_124 (by decide) (fun hc24 => ?_) (fun hc24 => ?_)
            · refine s_aload_n kx_125_129 rfl ?_
              refine s_iload_n kx_125_130 rfl ?_
              refine s_iload_n kx_125_131 rfl ?_
              refine s_iload kx_125_132 rfl ?_
              refine s_iload kx_125_134 rfl ?_
              refine s_iload kx_125_136 rfl ?_
              refine s_callV2 (k := t) (s1 := 6) (s2 := 0) (as := [(0, v22), (0, v21), (0, v17), (0, v13), (0, v5)]) (rest := []) kx_125_138 kp_125_139 (Or.inl rfl) rfl (tkt_0 hT ht) ki_113 kcl_113 rfl rfl (by decide) (m_113 (d := d + 3) (name := v5) (strong := v13) (weight := v17) (width := v21) (home := v22) hT hI23 ht (by omega)) (kV (fun M26 hI26 fr26 v25p => ?_))
              have hFm26 := hFm23.call fr26 rfl
              refine s_iconst (v := 1) kx_125_141 (by decide) ?_
              exact s_iret kx_125_142 (Or.inr ⟨kq_125, by omega⟩) ⟨_, _, rfl, rfl, hI26, hFm26, (by omega)⟩
            · refine s_iconst (v := 0) kx_125_127 (by decide) ?_
              exact s_iret kx_125_128 (Or.inr ⟨kq_125, by omega⟩) ⟨_, _, rfl, rfl, hI23, hFm23, (by omega)⟩
          · refine s_iconst (v := 0) kx_125_104 (by decide) ?_
            exact s_iret kx_125_105 (Or.inr ⟨kq_125, by omega⟩) ⟨_, _, rfl, rfl, hI19, hFm19, (by omega)⟩
        · refine s_iconst (v := 0) kx_125_84 (by decide) ?_
          exact s_iret kx_125_85 (Or.inr ⟨kq_125, by omega⟩) ⟨_, _, rfl, rfl, hI15, hFm15, (by omega)⟩
      · refine s_iconst (v := 0) kx_125_65 (by decide) ?_
        exact s_iret kx_125_66 (Or.inr ⟨kq_125, by omega⟩) ⟨_, _, rfl, rfl, hI11, hFm11, (by omega)⟩
    · refine s_iconst (v := 0) kx_125_44 (by decide) ?_
      exact s_iret kx_125_45 (Or.inr ⟨kq_125, by omega⟩) ⟨_, _, rfl, rfl, hI6, hFm6, (by omega)⟩
  · refine s_aload_n kx_125_9 rfl ?_
    refine r_getR (k := 3) (f := 1) (k2 := 5) kx_125_10 kp_125_22 (tk_3 hT) kf_10_1 (by decide) (rq_3_1 hI) ?_
    refine s_bipush (v := 6) kx_125_13 (by decide) ?_
    refine s_aload_n kx_125_15 rfl ?_
    refine r_getR (k := 3) (f := 1) (k2 := 5) kx_125_16 kp_125_22 (tk_3 hT) kf_10_1 (by decide) (rq_3_1 hI) ?_
    refine r_getI (k := 5) (f := 5) kx_125_19 kp_125_105 (tk_5 hT) kf_3_5 (fun _ => rfl) (rg_5_5 hI) (fun v27 v27e v27a v27b => ?_)
    refine s_callV2 (k := 5) (s1 := 3) (s2 := 0) (as := [(0, v27), (0, 6)]) (rest := []) kx_125_22 kp_125_45 (Or.inl rfl) rfl (tk_5 hT) ki_20 kcl_20 rfl rfl (by decide) (m_20 (d := d + 3) (kind := 6) (place := v27) hT hI) (kW (fun v28 M29 hI29 fr29 v28p => ?_))
    have hFm29 := hFm.call fr29 rfl
    exact s_iret kx_125_25 (Or.inr ⟨kq_125, by omega⟩) ⟨_, _, rfl, rfl, hI29, hFm29, (by omega)⟩
theorem kx_127_0 : x_code k_P 127 0 = some (.aload_n 0, 1) := by decide +kernel
theorem kx_127_1 : x_code k_P 127 1 = some (.getfield 22, 3) := by decide +kernel
theorem kp_127_22 : x_pool k_P 127 22 = (1, 10, 1) := by decide +kernel
theorem kx_127_4 : x_code k_P 127 4 = some (.invokevirtual 49, 3) := by decide +kernel
theorem kp_127_49 : x_pool k_P 127 49 = (2, 26, 0) := by decide +kernel
theorem kx_127_7 : x_code k_P 127 7 = some (.aload_n 0, 1) := by decide +kernel
theorem kx_127_8 : x_code k_P 127 8 = some (.aload_n 1, 1) := by decide +kernel
theorem kx_127_9 : x_code k_P 127 9 = some (.iconst (-1), 1) := by decide +kernel
theorem kx_127_10 : x_code k_P 127 10 = some (.invokevirtual 151, 3) := by decide +kernel
theorem kp_127_151 : x_pool k_P 127 151 = (2, 134, 2) := by decide +kernel
theorem ki_134 : x_mci k_P 134 = 10 := by decide +kernel
theorem kcl_134 : x_maxL k_P 134 ≤ 60 ∧ 3 ≤ x_maxL k_P 134 := by decide +kernel
theorem kx_127_13 : x_code k_P 127 13 = some (.istore_n 2, 1) := by decide +kernel
theorem km_127_2 : 2 < x_maxL k_P 127 := by decide +kernel
theorem kx_127_14 : x_code k_P 127 14 = some (.iload_n 2, 1) := by decide +kernel
theorem kx_127_15 : x_code k_P 127 15 = some (.iconst (-1), 1) := by decide +kernel
theorem kx_127_16 : x_code k_P 127 16 = some (.if_icmp .ne 5, 3) := by decide +kernel
theorem kx_127_21 : x_code k_P 127 21 = some (.aload_n 0, 1) := by decide +kernel
theorem kx_127_22 : x_code k_P 127 22 = some (.getfield 22, 3) := by decide +kernel
theorem kx_127_25 : x_code k_P 127 25 = some (.invokevirtual 49, 3) := by decide +kernel
theorem kx_127_28 : x_code k_P 127 28 = some (.aload_n 0, 1) := by decide +kernel
theorem kx_127_29 : x_code k_P 127 29 = some (.aload_n 1, 1) := by decide +kernel
theorem kx_127_30 : x_code k_P 127 30 = some (.iload_n 2, 1) := by decide +kernel
theorem kx_127_31 : x_code k_P 127 31 = some (.invokevirtual 151, 3) := by decide +kernel
theorem kx_127_34 : x_code k_P 127 34 = some (.istore_n 3, 1) := by decide +kernel
theorem km_127_3 : 3 < x_maxL k_P 127 := by decide +kernel
theorem kx_127_35 : x_code k_P 127 35 = some (.iload_n 3, 1) := by decide +kernel
theorem kx_127_36 : x_code k_P 127 36 = some (.iconst (-1), 1) := by decide +kernel
theorem kx_127_37 : x_code k_P 127 37 = some (.if_icmp .ne 5, 3) := by decide +kernel
theorem kx_127_42 : x_code k_P 127 42 = some (.aload_n 0, 1) := by decide +kernel
theorem kx_127_43 : x_code k_P 127 43 = some (.getfield 22, 3) := by decide +kernel
theorem kx_127_46 : x_code k_P 127 46 = some (.invokevirtual 49, 3) := by decide +kernel
theorem kx_127_49 : x_code k_P 127 49 = some (.aload_n 1, 1) := by decide +kernel
theorem kx_127_50 : x_code k_P 127 50 = some (.iload_n 2, 1) := by decide +kernel
theorem kx_127_51 : x_code k_P 127 51 = some (.iload_n 3, 1) := by decide +kernel
theorem kx_127_52 : x_code k_P 127 52 = some (.invokevirtual 154, 3) := by decide +kernel
theorem kp_127_154 : x_pool k_P 127 154 = (2, 114, 2) := by decide +kernel
theorem ki_114 : x_mci k_P 114 = 9 := by decide +kernel
theorem kcl_114 : x_maxL k_P 114 ≤ 60 ∧ 3 ≤ x_maxL k_P 114 := by decide +kernel
theorem kx_127_55 : x_code k_P 127 55 = some (.iconst 1, 1) := by decide +kernel
theorem kx_127_56 : x_code k_P 127 56 = some (.ireturn, 1) := by decide +kernel
theorem kq_127 : x_retk k_P 127 = 2 := by decide +kernel
theorem kx_127_40 : x_code k_P 127 40 = some (.iconst 0, 1) := by decide +kernel
theorem kx_127_41 : x_code k_P 127 41 = some (.ireturn, 1) := by decide +kernel
theorem kx_127_19 : x_code k_P 127 19 = some (.iconst 0, 1) := by decide +kernel
theorem kx_127_20 : x_code k_P 127 20 = some (.ireturn, 1) := by decide +kernel
def fS_127_m : List (Nat × Nat) := [(17, 99999), (34, 99999), (5, 2), (5, 3), (5, 4), (5, 5), (5, 6), (5, 7)]
theorem m_127 {xs : Nat → Int} {Ln d : Nat} {T : List cK} {M : cM} (hT : TT T) (hI : Rng M) {t : Nat} (ht : t = 8 ∨ t = 25) (h50 : M 5 0 = ((2 : Nat) : Int)) : cC k_P xs Ln (d + 3) 127 [rf 3, rf t] (T, M) (qW T M fS_127_m 0 (fun v M1 => 0 ≤ v ∧ v ≤ 1)) := by
  show cP k_P xs Ln (d + 3) 127 0 [(0, rf 3), (1, rf t)] [] (T, M) _
  have hFm : Fr fS_127_m M M := Fr.refl
  refine s_aload_n kx_127_0 rfl ?_
  refine r_getR (k := 3) (f := 1) (k2 := 5) kx_127_1 kp_127_22 (tk_3 hT) kf_10_1 (by decide) (rq_3_1 hI) ?_
  refine s_callV2 (k := 5) (s1 := 1) (s2 := 0) (as := []) (rest := []) kx_127_4 kp_127_49 (Or.inl rfl) rfl (tk_5 hT) ki_26 kcl_26 rfl rfl (by decide) (m_26 (d := d) hT hI h50) (kV (fun M2 hI2 fr2 v1p => ?_))
  have hFm2 := hFm.call fr2 rfl
  refine s_aload_n kx_127_7 rfl ?_
  refine s_aload_n kx_127_8 rfl ?_
  refine s_iconst (v := (-1)) kx_127_9 (by decide) ?_
  refine s_callV2 (k := 3) (s1 := 3) (s2 := 0) (as := [(0, (-1)), rf t]) (rest := []) kx_127_10 kp_127_151 (Or.inl rfl) rfl (tk_3 hT) ki_134 kcl_134 rfl rfl (by decide) (m_134 (d := d) (other := (-1)) hT hI2 ht) (kW (fun v3 M4 hI4 fr4 v3p => ?_))
  have hFm4 := hFm2.call fr4 rfl
  refine s_istore_n kx_127_13 km_127_2 rfl ?_
  refine s_iload_n kx_127_14 rfl ?_
  refine s_iconst (v := (-1)) kx_127_15 (by decide) ?_
  refine s_icmp_ne (t := 21) kx_127_16 (by decide) (fun hc5 => ?_) (fun hc5 => ?_)
  · refine s_aload_n kx_127_21 rfl ?_
    refine r_getR (k := 3) (f := 1) (k2 := 5) kx_127_22 kp_127_22 (tk_3 hT) kf_10_1 (by decide) (rq_3_1 hI4) ?_
    refine s_callV2 (k := 5) (s1 := 1) (s2 := 0) (as := []) (rest := []) kx_127_25 kp_127_49 (Or.inl rfl) rfl (tk_5 hT) ki_26 kcl_26 rfl rfl (by decide) (m_26 (d := d) hT hI4 ((fr4 5 0 rfl).trans ((fr2 5 0 rfl).trans h50))) (kV (fun M7 hI7 fr7 v6p => ?_))
    have hFm7 := hFm4.call fr7 rfl
    refine s_aload_n kx_127_28 rfl ?_
    refine s_aload_n kx_127_29 rfl ?_
    refine s_iload_n kx_127_30 rfl ?_
    refine s_callV2 (k := 3) (s1 := 3) (s2 := 0) (as := [(0, v3), rf t]) (rest := []) kx_127_31 kp_127_151 (Or.inl rfl) rfl (tk_3 hT) ki_134 kcl_134 rfl rfl (by decide) (m_134 (d := d) (other := v3) hT hI7 ht) (kW (fun v8 M9 hI9 fr9 v8p => ?_))
    have hFm9 := hFm7.call fr9 rfl
    refine s_istore_n kx_127_34 km_127_3 rfl ?_
    refine s_iload_n kx_127_35 rfl ?_
    refine s_iconst (v := (-1)) kx_127_36 (by decide) ?_
    refine s_icmp_ne (t := 42) kx_127_37 (by decide) (fun hc10 => ?_) (fun hc10 => ?_)
    · refine s_aload_n kx_127_42 rfl ?_
      refine r_getR (k := 3) (f := 1) (k2 := 5) kx_127_43 kp_127_22 (tk_3 hT) kf_10_1 (by decide) (rq_3_1 hI9) ?_
      refine s_callV2 (k := 5) (s1 := 1) (s2 := 0) (as := []) (rest := []) kx_127_46 kp_127_49 (Or.inl rfl) rfl (tk_5 hT) ki_26 kcl_26 rfl rfl (by decide) (m_26 (d := d) hT hI9 ((fr9 5 0 rfl).trans ((fr7 5 0 rfl).trans ((fr4 5 0 rfl).trans ((fr2 5 0 rfl).trans h50))))) (kV (fun M12 hI12 fr12 v11p => ?_))
      have hFm12 := hFm9.call fr12 rfl
      refine s_aload_n kx_127_49 rfl ?_
      refine s_iload_n kx_127_50 rfl ?_
      refine s_iload_n kx_127_51 rfl ?_
      refine s_callV2 (k := t) (s1 := 3) (s2 := 0) (as := [(0, v8), (0, v3)]) (rest := []) kx_127_52 kp_127_154 (Or.inl rfl) rfl (tkt_0 hT ht) ki_114 kcl_114 rfl rfl (by decide) (m_114 (d := d + 1) (one := v3) (other := v8) hT hI12 ht) (kV (fun M14 hI14 fr14 v13p => ?_))
      have hFm14 := hFm12.call fr14 rfl
      refine s_iconst (v := 1) kx_127_55 (by decide) ?_
      exact s_iret kx_127_56 (Or.inr ⟨kq_127, by omega⟩) ⟨_, _, rfl, rfl, hI14, hFm14, (by omega)⟩
    · refine s_iconst (v := 0) kx_127_40 (by decide) ?_
      exact s_iret kx_127_41 (Or.inr ⟨kq_127, by omega⟩) ⟨_, _, rfl, rfl, hI9, hFm9, (by omega)⟩
  · refine s_iconst (v := 0) kx_127_19 (by decide) ?_
    exact s_iret kx_127_20 (Or.inr ⟨kq_127, by omega⟩) ⟨_, _, rfl, rfl, hI4, hFm4, (by omega)⟩
theorem kx_129_0 : x_code k_P 129 0 = some (.aload_n 0, 1) := by decide +kernel
theorem kx_129_1 : x_code k_P 129 1 = some (.ldc 163, 2) := by decide +kernel
theorem kp_129_163 : x_pool k_P 129 163 = (7, 0, 86148467) := by decide +kernel
theorem kx_129_3 : x_code k_P 129 3 = some (.iconst 0, 1) := by decide +kernel
theorem kx_129_4 : x_code k_P 129 4 = some (.bipush 100, 2) := by decide +kernel
theorem kx_129_6 : x_code k_P 129 6 = some (.invokevirtual 113, 3) := by decide +kernel
theorem kp_129_113 : x_pool k_P 129 113 = (2, 131, 3) := by decide +kernel
theorem kx_129_9 : x_code k_P 129 9 = some (.ifCond .ne 5, 3) := by decide +kernel
theorem kx_129_14 : x_code k_P 129 14 = some (.aload_n 1, 1) := by decide +kernel
theorem kx_129_15 : x_code k_P 129 15 = some (.aload_n 0, 1) := by decide +kernel
theorem kx_129_16 : x_code k_P 129 16 = some (.getfield 23, 3) := by decide +kernel
theorem kp_129_23 : x_pool k_P 129 23 = (1, 10, 2) := by decide +kernel
theorem kx_129_19 : x_code k_P 129 19 = some (.putfield 164, 3) := by decide +kernel
theorem kp_129_164 : x_pool k_P 129 164 = (1, 9, 2) := by decide +kernel
theorem kx_129_22 : x_code k_P 129 22 = some (.iconst 1, 1) := by decide +kernel
theorem kx_129_23 : x_code k_P 129 23 = some (.ireturn, 1) := by decide +kernel
theorem kq_129 : x_retk k_P 129 = 2 := by decide +kernel
theorem kx_129_12 : x_code k_P 129 12 = some (.iconst 0, 1) := by decide +kernel
theorem kx_129_13 : x_code k_P 129 13 = some (.ireturn, 1) := by decide +kernel
def fS_129_m : List (Nat × Nat) := [(25, 2), (3, 2), (5, 2), (5, 3), (5, 4), (5, 5), (5, 6), (5, 7), (8, 2)]
theorem m_129 {xs : Nat → Int} {Ln d : Nat} {T : List cK} {M : cM} (hT : TT T) (hI : Rng M) {t : Nat} (ht : t = 8 ∨ t = 25) (h50 : M 5 0 = ((2 : Nat) : Int)) : cC k_P xs Ln (d + 4) 129 [rf 3, rf t] (T, M) (qW T M fS_129_m 0 (fun v M1 => 0 ≤ v ∧ v ≤ 1)) := by
  show cP k_P xs Ln (d + 4) 129 0 [(0, rf 3), (1, rf t)] [] (T, M) _
  have hFm : Fr fS_129_m M M := Fr.refl
  refine s_aload_n kx_129_0 rfl ?_
  refine s_ldc kx_129_1 kp_129_163 ?_
  refine s_iconst (v := 0) kx_129_3 (by decide) ?_
  refine s_bipush (v := 100) kx_129_4 (by decide) ?_
  refine s_callV2 (k := 3) (s1 := 4) (s2 := 0) (as := [(0, 100), (0, 0), (0, 86148467)]) (rest := []) kx_129_6 kp_129_113 (Or.inl rfl) rfl (tk_3 hT) ki_131 kcl_131 rfl rfl (by decide) (m_131 (d := d) (word := 86148467) (least := 0) (most := 100) hT hI h50) (kW (fun v1 M2 hI2 fr2 v1p => ?_))
  have hFm2 := hFm.call fr2 rfl
  refine s_if_ne (t := 14) kx_129_9 (by decide) (fun hc3 => ?_) (fun hc3 => ?_)
  · refine s_aload_n kx_129_14 rfl ?_
    refine s_aload_n kx_129_15 rfl ?_
    refine r_getU (k := 3) (f := 2) kx_129_16 kp_129_23 (tk_3 hT) kf_10_2 (fun _ => rfl) (fun v4 v4e => ?_)
    refine r_put (k := t) (f := 2) kx_129_19 kp_129_164 (tkt_0 hT ht) kf_9_2 rfl (by decide) (by decide) hI2 (rut_0_2 ht) (fun M5 hI5 u5 => ?_)
    have hFm5 := hFm2.up u5 (by rcases ht with rfl | rfl <;> rfl)
    refine s_iconst (v := 1) kx_129_22 (by decide) ?_
    exact s_iret kx_129_23 (Or.inr ⟨kq_129, by omega⟩) ⟨_, _, rfl, rfl, hI5, hFm5, (by omega)⟩
  · refine s_iconst (v := 0) kx_129_12 (by decide) ?_
    exact s_iret kx_129_13 (Or.inr ⟨kq_129, by omega⟩) ⟨_, _, rfl, rfl, hI2, hFm2, (by omega)⟩
theorem kx_130_0 : x_code k_P 130 0 = some (.aload_n 0, 1) := by decide +kernel
theorem kx_130_1 : x_code k_P 130 1 = some (.getfield 22, 3) := by decide +kernel
theorem kp_130_22 : x_pool k_P 130 22 = (1, 10, 1) := by decide +kernel
theorem kx_130_4 : x_code k_P 130 4 = some (.invokevirtual 49, 3) := by decide +kernel
theorem kp_130_49 : x_pool k_P 130 49 = (2, 26, 0) := by decide +kernel
theorem kx_130_7 : x_code k_P 130 7 = some (.aload_n 0, 1) := by decide +kernel
theorem kx_130_8 : x_code k_P 130 8 = some (.aload_n 1, 1) := by decide +kernel
theorem kx_130_9 : x_code k_P 130 9 = some (.invokevirtual 122, 3) := by decide +kernel
theorem kp_130_122 : x_pool k_P 130 122 = (2, 133, 1) := by decide +kernel
theorem kx_130_12 : x_code k_P 130 12 = some (.istore_n 2, 1) := by decide +kernel
theorem km_130_2 : 2 < x_maxL k_P 130 := by decide +kernel
theorem kx_130_13 : x_code k_P 130 13 = some (.iload_n 2, 1) := by decide +kernel
theorem kx_130_14 : x_code k_P 130 14 = some (.iconst (-1), 1) := by decide +kernel
theorem kx_130_15 : x_code k_P 130 15 = some (.if_icmp .ne 5, 3) := by decide +kernel
theorem kx_130_20 : x_code k_P 130 20 = some (.aload_n 0, 1) := by decide +kernel
theorem kx_130_21 : x_code k_P 130 21 = some (.getfield 22, 3) := by decide +kernel
theorem kx_130_24 : x_code k_P 130 24 = some (.invokevirtual 49, 3) := by decide +kernel
theorem kx_130_27 : x_code k_P 130 27 = some (.aload_n 1, 1) := by decide +kernel
theorem kx_130_28 : x_code k_P 130 28 = some (.iload_n 2, 1) := by decide +kernel
theorem kx_130_29 : x_code k_P 130 29 = some (.putfield 167, 3) := by decide +kernel
theorem kp_130_167 : x_pool k_P 130 167 = (1, 9, 3) := by decide +kernel
theorem kx_130_32 : x_code k_P 130 32 = some (.iconst 1, 1) := by decide +kernel
theorem kx_130_33 : x_code k_P 130 33 = some (.ireturn, 1) := by decide +kernel
theorem kq_130 : x_retk k_P 130 = 2 := by decide +kernel
theorem kx_130_18 : x_code k_P 130 18 = some (.iconst 0, 1) := by decide +kernel
theorem kx_130_19 : x_code k_P 130 19 = some (.ireturn, 1) := by decide +kernel
def fS_130_m : List (Nat × Nat) := [(25, 3), (5, 2), (5, 3), (5, 4), (5, 5), (5, 6), (5, 7), (8, 3)]
theorem m_130 {xs : Nat → Int} {Ln d : Nat} {T : List cK} {M : cM} (hT : TT T) (hI : Rng M) {t : Nat} (ht : t = 8 ∨ t = 25) (h50 : M 5 0 = ((2 : Nat) : Int)) : cC k_P xs Ln (d + 3) 130 [rf 3, rf t] (T, M) (qW T M fS_130_m 0 (fun v M1 => 0 ≤ v ∧ v ≤ 1)) := by
  show cP k_P xs Ln (d + 3) 130 0 [(0, rf 3), (1, rf t)] [] (T, M) _
  have hFm : Fr fS_130_m M M := Fr.refl
  refine s_aload_n kx_130_0 rfl ?_
  refine r_getR (k := 3) (f := 1) (k2 := 5) kx_130_1 kp_130_22 (tk_3 hT) kf_10_1 (by decide) (rq_3_1 hI) ?_
  refine s_callV2 (k := 5) (s1 := 1) (s2 := 0) (as := []) (rest := []) kx_130_4 kp_130_49 (Or.inl rfl) rfl (tk_5 hT) ki_26 kcl_26 rfl rfl (by decide) (m_26 (d := d) hT hI h50) (kV (fun M2 hI2 fr2 v1p => ?_))
  have hFm2 := hFm.call fr2 rfl
  refine s_aload_n kx_130_7 rfl ?_
  refine s_aload_n kx_130_8 rfl ?_
  refine s_callV2 (k := 3) (s1 := 2) (s2 := 0) (as := [rf t]) (rest := []) kx_130_9 kp_130_122 (Or.inl rfl) rfl (tk_3 hT) ki_133 kcl_133 rfl rfl (by decide) (m_133 (d := d) hT hI2 ht) (kW (fun v3 M4 hI4 fr4 v3p => ?_))
  have hFm4 := hFm2.call fr4 rfl
  refine s_istore_n kx_130_12 km_130_2 rfl ?_
  refine s_iload_n kx_130_13 rfl ?_
  refine s_iconst (v := (-1)) kx_130_14 (by decide) ?_
  refine s_icmp_ne (t := 20) kx_130_15 (by decide) (fun hc5 => ?_) (fun hc5 => ?_)
  · refine s_aload_n kx_130_20 rfl ?_
    refine r_getR (k := 3) (f := 1) (k2 := 5) kx_130_21 kp_130_22 (tk_3 hT) kf_10_1 (by decide) (rq_3_1 hI4) ?_
    refine s_callV2 (k := 5) (s1 := 1) (s2 := 0) (as := []) (rest := []) kx_130_24 kp_130_49 (Or.inl rfl) rfl (tk_5 hT) ki_26 kcl_26 rfl rfl (by decide) (m_26 (d := d) hT hI4 ((fr4 5 0 rfl).trans ((fr2 5 0 rfl).trans h50))) (kV (fun M7 hI7 fr7 v6p => ?_))
    have hFm7 := hFm4.call fr7 rfl
    refine s_aload_n kx_130_27 rfl ?_
    refine s_iload_n kx_130_28 rfl ?_
    refine r_put (k := t) (f := 3) kx_130_29 kp_130_167 (tkt_0 hT ht) kf_9_3 rfl (by decide) (by decide) hI7 (rut_0_3 ht) (fun M8 hI8 u8 => ?_)
    have hFm8 := hFm7.up u8 (by rcases ht with rfl | rfl <;> rfl)
    refine s_iconst (v := 1) kx_130_32 (by decide) ?_
    exact s_iret kx_130_33 (Or.inr ⟨kq_130, by omega⟩) ⟨_, _, rfl, rfl, hI8, hFm8, (by omega)⟩
  · refine s_iconst (v := 0) kx_130_18 (by decide) ?_
    exact s_iret kx_130_19 (Or.inr ⟨kq_130, by omega⟩) ⟨_, _, rfl, rfl, hI4, hFm4, (by omega)⟩
theorem kx_128_0 : x_code k_P 128 0 = some (.aload_n 1, 1) := by decide +kernel
theorem kx_128_1 : x_code k_P 128 1 = some (.getfield 158, 3) := by decide +kernel
theorem kp_128_158 : x_pool k_P 128 158 = (1, 1, 2) := by decide +kernel
theorem kx_128_4 : x_code k_P 128 4 = some (.ifCond .le 20, 3) := by decide +kernel
theorem kx_128_24 : x_code k_P 128 24 = some (.aload_n 0, 1) := by decide +kernel
theorem kx_128_25 : x_code k_P 128 25 = some (.getfield 22, 3) := by decide +kernel
theorem kp_128_22 : x_pool k_P 128 22 = (1, 10, 1) := by decide +kernel
theorem kx_128_28 : x_code k_P 128 28 = some (.invokevirtual 49, 3) := by decide +kernel
theorem kp_128_49 : x_pool k_P 128 49 = (2, 26, 0) := by decide +kernel
theorem kx_128_31 : x_code k_P 128 31 = some (.iconst 1, 1) := by decide +kernel
theorem kx_128_32 : x_code k_P 128 32 = some (.ireturn, 1) := by decide +kernel
theorem kq_128 : x_retk k_P 128 = 2 := by decide +kernel
theorem kx_128_7 : x_code k_P 128 7 = some (.aload_n 0, 1) := by decide +kernel
theorem kx_128_8 : x_code k_P 128 8 = some (.getfield 22, 3) := by decide +kernel
theorem kx_128_11 : x_code k_P 128 11 = some (.bipush 6, 2) := by decide +kernel
theorem kx_128_13 : x_code k_P 128 13 = some (.aload_n 0, 1) := by decide +kernel
theorem kx_128_14 : x_code k_P 128 14 = some (.getfield 22, 3) := by decide +kernel
theorem kx_128_17 : x_code k_P 128 17 = some (.getfield 105, 3) := by decide +kernel
theorem kp_128_105 : x_pool k_P 128 105 = (1, 3, 5) := by decide +kernel
theorem kx_128_20 : x_code k_P 128 20 = some (.invokevirtual 45, 3) := by decide +kernel
theorem kp_128_45 : x_pool k_P 128 45 = (2, 20, 2) := by decide +kernel
theorem kx_128_23 : x_code k_P 128 23 = some (.ireturn, 1) := by decide +kernel
def fS_128_m : List (Nat × Nat) := [(5, 2), (5, 3), (5, 4), (5, 5), (5, 6), (5, 7)]
theorem m_128 {xs : Nat → Int} {Ln d : Nat} {T : List cK} {M : cM} (hT : TT T) (hI : Rng M) (h50 : M 5 0 = ((2 : Nat) : Int)) {f : Nat} (hf : fF f) : cC k_P xs Ln (d + 3) 128 [rf 3, rf f] (T, M) (qW T M fS_128_m 0 (fun v M1 => (v = 1 ∧ M1 f 2 = 0 ∧ (M1 5 3 = 0 ∨ M1 5 3 = 5 ∨ 1 ≤ M1 5 2)) ∨ v = 0)) := by
  show cP k_P xs Ln (d + 3) 128 0 [(0, rf 3), (1, rf f)] [] (T, M) _
  have hFm : Fr fS_128_m M M := Fr.refl
  have h52 := rg_5_2 hI
  refine s_aload_n kx_128_0 rfl ?_
  refine r_getI (k := f) (f := 2) kx_128_1 kp_128_158 (tkf_0 hT hf) kf_1_2 (fun _ => rfl) (rgf_0_2 hI hf) (fun v1 v1e v1a v1b => ?_)
  refine s_if_le (t := 24) kx_128_4 (by decide) (fun hc2 => ?_) (fun hc2 => ?_)
  · refine s_aload_n kx_128_24 rfl ?_
    refine r_getR (k := 3) (f := 1) (k2 := 5) kx_128_25 kp_128_22 (tk_3 hT) kf_10_1 (by decide) (rq_3_1 hI) ?_
    refine s_callV2 (k := 5) (s1 := 1) (s2 := 0) (as := []) (rest := []) kx_128_28 kp_128_49 (Or.inl rfl) rfl (tk_5 hT) ki_26 kcl_26 rfl rfl (by decide) (m_26 (d := d) hT hI h50) (kV (fun M4 hI4 fr4 v3p => ?_))
    have hFm4 := hFm.call fr4 rfl
    have tr5 := (fr4 f 2 (by rcases hf with rfl | rfl | rfl | rfl <;> rfl))
    have tr6 := rg_5_2 hI4
    refine s_iconst (v := 1) kx_128_31 (by decide) ?_
    exact s_iret kx_128_32 (Or.inr ⟨kq_128, by omega⟩) ⟨_, _, rfl, rfl, hI4, hFm4, (by omega)⟩
  · refine s_aload_n kx_128_7 rfl ?_
    refine r_getR (k := 3) (f := 1) (k2 := 5) kx_128_8 kp_128_22 (tk_3 hT) kf_10_1 (by decide) (rq_3_1 hI) ?_
    refine s_bipush (v := 6) kx_128_11 (by decide) ?_
    refine s_aload_n kx_128_13 rfl ?_
    refine r_getR (k := 3) (f := 1) (k2 := 5) kx_128_14 kp_128_22 (tk_3 hT) kf_10_1 (by decide) (rq_3_1 hI) ?_
    refine r_getI (k := 5) (f := 5) kx_128_17 kp_128_105 (tk_5 hT) kf_3_5 (fun _ => rfl) (rg_5_5 hI) (fun v7 v7e v7a v7b => ?_)
    refine s_callV2 (k := 5) (s1 := 3) (s2 := 0) (as := [(0, v7), (0, 6)]) (rest := []) kx_128_20 kp_128_45 (Or.inl rfl) rfl (tk_5 hT) ki_20 kcl_20 rfl rfl (by decide) (m_20 (d := d + 2) (kind := 6) (place := v7) hT hI) (kW (fun v8 M9 hI9 fr9 v8p => ?_))
    have hFm9 := hFm.call fr9 rfl
    have tr10 := (fr9 5 2 rfl)
    have tr11 := (fr9 5 3 rfl)
    have tr12 := (fr9 f 2 (by rcases hf with rfl | rfl | rfl | rfl <;> rfl))
    have tr13 := rg_5_2 hI9
    exact s_iret kx_128_23 (Or.inr ⟨kq_128, by omega⟩) ⟨_, _, rfl, rfl, hI9, hFm9, (by omega)⟩
theorem kx_122_0 : x_code k_P 122 0 = some (.aload_n 0, 1) := by decide +kernel
theorem kx_122_1 : x_code k_P 122 1 = some (.getfield 22, 3) := by decide +kernel
theorem kp_122_22 : x_pool k_P 122 22 = (1, 10, 1) := by decide +kernel
theorem kx_122_4 : x_code k_P 122 4 = some (.getfield 63, 3) := by decide +kernel
theorem kp_122_63 : x_pool k_P 122 63 = (1, 3, 3) := by decide +kernel
theorem kx_122_7 : x_code k_P 122 7 = some (.iconst 1, 1) := by decide +kernel
theorem kx_122_8 : x_code k_P 122 8 = some (.if_icmp .eq 11, 3) := by decide +kernel
theorem kx_122_19 : x_code k_P 122 19 = some (.aload_n 0, 1) := by decide +kernel
theorem kx_122_20 : x_code k_P 122 20 = some (.getfield 22, 3) := by decide +kernel
theorem kx_122_23 : x_code k_P 122 23 = some (.getfield 66, 3) := by decide +kernel
theorem kp_122_66 : x_pool k_P 122 66 = (1, 3, 4) := by decide +kernel
theorem kx_122_26 : x_code k_P 122 26 = some (.lookupswitch 174 #[(1, 168), (86148467, 162), (351582372, 92), (542723566, 86), (620213248, 74), (650632192, 98), (658552979, 130), (773619712, 80)], 74) := by decide +kernel
theorem kx_122_200 : x_code k_P 122 200 = some (.aload_n 0, 1) := by decide +kernel
theorem kx_122_201 : x_code k_P 122 201 = some (.getfield 22, 3) := by decide +kernel
theorem kx_122_204 : x_code k_P 122 204 = some (.invokevirtual 60, 3) := by decide +kernel
theorem kp_122_60 : x_pool k_P 122 60 = (2, 21, 0) := by decide +kernel
theorem kx_122_207 : x_code k_P 122 207 = some (.ireturn, 1) := by decide +kernel
theorem kq_122 : x_retk k_P 122 = 2 := by decide +kernel
theorem kx_122_194 : x_code k_P 122 194 = some (.aload_n 0, 1) := by decide +kernel
theorem kx_122_195 : x_code k_P 122 195 = some (.aload_n 1, 1) := by decide +kernel
theorem kx_122_196 : x_code k_P 122 196 = some (.invokevirtual 99, 3) := by decide +kernel
theorem kp_122_99 : x_pool k_P 122 99 = (2, 130, 1) := by decide +kernel
theorem ki_130 : x_mci k_P 130 = 10 := by decide +kernel
theorem kcl_130 : x_maxL k_P 130 ≤ 60 ∧ 2 ≤ x_maxL k_P 130 := by decide +kernel
theorem kx_122_199 : x_code k_P 122 199 = some (.ireturn, 1) := by decide +kernel
theorem kx_122_188 : x_code k_P 122 188 = some (.aload_n 0, 1) := by decide +kernel
theorem kx_122_189 : x_code k_P 122 189 = some (.aload_n 1, 1) := by decide +kernel
theorem kx_122_190 : x_code k_P 122 190 = some (.invokevirtual 96, 3) := by decide +kernel
theorem kp_122_96 : x_pool k_P 122 96 = (2, 129, 1) := by decide +kernel
theorem ki_129 : x_mci k_P 129 = 10 := by decide +kernel
theorem kcl_129 : x_maxL k_P 129 ≤ 60 ∧ 2 ≤ x_maxL k_P 129 := by decide +kernel
theorem kx_122_193 : x_code k_P 122 193 = some (.ireturn, 1) := by decide +kernel
theorem kx_122_118 : x_code k_P 122 118 = some (.aload_n 0, 1) := by decide +kernel
theorem kx_122_119 : x_code k_P 122 119 = some (.aload_n 1, 1) := by decide +kernel
theorem kx_122_120 : x_code k_P 122 120 = some (.invokevirtual 78, 3) := by decide +kernel
theorem kp_122_78 : x_pool k_P 122 78 = (2, 127, 1) := by decide +kernel
theorem ki_127 : x_mci k_P 127 = 10 := by decide +kernel
theorem kcl_127 : x_maxL k_P 127 ≤ 60 ∧ 2 ≤ x_maxL k_P 127 := by decide +kernel
theorem kx_122_123 : x_code k_P 122 123 = some (.ireturn, 1) := by decide +kernel
theorem kx_122_112 : x_code k_P 122 112 = some (.aload_n 0, 1) := by decide +kernel
theorem kx_122_113 : x_code k_P 122 113 = some (.aload_n 1, 1) := by decide +kernel
theorem kx_122_114 : x_code k_P 122 114 = some (.invokevirtual 75, 3) := by decide +kernel
theorem kp_122_75 : x_pool k_P 122 75 = (2, 125, 1) := by decide +kernel
theorem ki_125 : x_mci k_P 125 = 10 := by decide +kernel
theorem kcl_125 : x_maxL k_P 125 ≤ 60 ∧ 2 ≤ x_maxL k_P 125 := by decide +kernel
theorem kx_122_117 : x_code k_P 122 117 = some (.ireturn, 1) := by decide +kernel
theorem kx_122_100 : x_code k_P 122 100 = some (.aload_n 0, 1) := by decide +kernel
theorem kx_122_101 : x_code k_P 122 101 = some (.aload_n 1, 1) := by decide +kernel
theorem kx_122_102 : x_code k_P 122 102 = some (.invokevirtual 69, 3) := by decide +kernel
theorem kp_122_69 : x_pool k_P 122 69 = (2, 123, 1) := by decide +kernel
theorem ki_123 : x_mci k_P 123 = 10 := by decide +kernel
theorem kcl_123 : x_maxL k_P 123 ≤ 60 ∧ 2 ≤ x_maxL k_P 123 := by decide +kernel
theorem kx_122_105 : x_code k_P 122 105 = some (.ireturn, 1) := by decide +kernel
theorem kx_122_124 : x_code k_P 122 124 = some (.aload_n 0, 1) := by decide +kernel
theorem kx_122_125 : x_code k_P 122 125 = some (.aload_n 1, 1) := by decide +kernel
theorem kx_122_126 : x_code k_P 122 126 = some (.getfield 81, 3) := by decide +kernel
theorem kp_122_81 : x_pool k_P 122 81 = (1, 9, 14) := by decide +kernel
theorem kx_122_129 : x_code k_P 122 129 = some (.invokevirtual 85, 3) := by decide +kernel
theorem kp_122_85 : x_pool k_P 122 85 = (2, 128, 1) := by decide +kernel
theorem ki_128 : x_mci k_P 128 = 10 := by decide +kernel
theorem kcl_128 : x_maxL k_P 128 ≤ 60 ∧ 2 ≤ x_maxL k_P 128 := by decide +kernel
theorem kx_122_132 : x_code k_P 122 132 = some (.ifCond .eq 22, 3) := by decide +kernel
theorem kx_122_154 : x_code k_P 122 154 = some (.iconst 0, 1) := by decide +kernel
theorem kx_122_155 : x_code k_P 122 155 = some (.ireturn, 1) := by decide +kernel
theorem kx_122_135 : x_code k_P 122 135 = some (.aload_n 0, 1) := by decide +kernel
theorem kx_122_136 : x_code k_P 122 136 = some (.getfield 12, 3) := by decide +kernel
theorem kp_122_12 : x_pool k_P 122 12 = (1, 10, 0) := by decide +kernel
theorem kf_10_0 : (x_cls k_P 10)[0]? = some 12 := by decide +kernel
theorem kx_122_139 : x_code k_P 122 139 = some (.aload_n 1, 1) := by decide +kernel
theorem kx_122_140 : x_code k_P 122 140 = some (.getfield 81, 3) := by decide +kernel
theorem kx_122_143 : x_code k_P 122 143 = some (.iconst 0, 1) := by decide +kernel
theorem kx_122_144 : x_code k_P 122 144 = some (.invokevirtual 89, 3) := by decide +kernel
theorem kp_122_89 : x_pool k_P 122 89 = (12, 89, 2) := by decide +kernel
theorem kx_122_147 : x_code k_P 122 147 = some (.ifCond .eq 7, 3) := by decide +kernel
theorem kx_122_150 : x_code k_P 122 150 = some (.iconst 1, 1) := by decide +kernel
theorem kx_122_151 : x_code k_P 122 151 = some (.goto 4, 3) := by decide +kernel
theorem kx_122_156 : x_code k_P 122 156 = some (.aload_n 0, 1) := by decide +kernel
theorem kx_122_157 : x_code k_P 122 157 = some (.aload_n 1, 1) := by decide +kernel
theorem kx_122_158 : x_code k_P 122 158 = some (.getfield 93, 3) := by decide +kernel
theorem kp_122_93 : x_pool k_P 122 93 = (1, 9, 15) := by decide +kernel
theorem kx_122_161 : x_code k_P 122 161 = some (.invokevirtual 85, 3) := by decide +kernel
theorem kx_122_164 : x_code k_P 122 164 = some (.ifCond .eq 22, 3) := by decide +kernel
theorem kx_122_186 : x_code k_P 122 186 = some (.iconst 0, 1) := by decide +kernel
theorem kx_122_187 : x_code k_P 122 187 = some (.ireturn, 1) := by decide +kernel
theorem kx_122_167 : x_code k_P 122 167 = some (.aload_n 0, 1) := by decide +kernel
theorem kx_122_168 : x_code k_P 122 168 = some (.getfield 12, 3) := by decide +kernel
theorem kx_122_171 : x_code k_P 122 171 = some (.aload_n 1, 1) := by decide +kernel
theorem kx_122_172 : x_code k_P 122 172 = some (.getfield 93, 3) := by decide +kernel
theorem kx_122_175 : x_code k_P 122 175 = some (.iconst 0, 1) := by decide +kernel
theorem kx_122_176 : x_code k_P 122 176 = some (.invokevirtual 89, 3) := by decide +kernel
theorem kx_122_179 : x_code k_P 122 179 = some (.ifCond .eq 7, 3) := by decide +kernel
theorem kx_122_182 : x_code k_P 122 182 = some (.iconst 1, 1) := by decide +kernel
theorem kx_122_183 : x_code k_P 122 183 = some (.goto 4, 3) := by decide +kernel
theorem kx_122_106 : x_code k_P 122 106 = some (.aload_n 0, 1) := by decide +kernel
theorem kx_122_107 : x_code k_P 122 107 = some (.aload_n 1, 1) := by decide +kernel
theorem kx_122_108 : x_code k_P 122 108 = some (.invokevirtual 72, 3) := by decide +kernel
theorem kp_122_72 : x_pool k_P 122 72 = (2, 124, 1) := by decide +kernel
theorem ki_124 : x_mci k_P 124 = 10 := by decide +kernel
theorem kcl_124 : x_maxL k_P 124 ≤ 60 ∧ 2 ≤ x_maxL k_P 124 := by decide +kernel
theorem kx_122_111 : x_code k_P 122 111 = some (.ireturn, 1) := by decide +kernel
theorem kx_122_11 : x_code k_P 122 11 = some (.aload_n 0, 1) := by decide +kernel
theorem kx_122_12 : x_code k_P 122 12 = some (.getfield 22, 3) := by decide +kernel
theorem kx_122_15 : x_code k_P 122 15 = some (.invokevirtual 60, 3) := by decide +kernel
theorem kx_122_18 : x_code k_P 122 18 = some (.ireturn, 1) := by decide +kernel
def fS_122_m : List (Nat × Nat) := [(10, 99999), (11, 99999), (114, 99999), (12, 99999), (13, 99999), (14, 99999), (15, 99999), (16, 99999), (17, 99999), (18, 99999), (19, 1), (19, 2), (21, 99999), (22, 1), (22, 2), (24, 99999), (25, 0), (25, 1), (25, 2), (25, 3), (26, 99999), (27, 99999), (28, 99999), (29, 99999), (3, 2), (30, 99999), (31, 99999), (32, 99999), (33, 99999), (34, 99999), (35, 99999), (36, 1), (36, 2), (38, 99999), (39, 1), (39, 2), (41, 99999), (5, 2), (5, 3), (5, 4), (5, 5), (5, 6), (5, 7), (8, 0), (8, 1), (8, 2), (8, 3), (9, 99999)]
theorem m_122 {xs : Nat → Int} {Ln d : Nat} {T : List cK} {M : cM} (hT : TT T) (hI : Rng M) {t : Nat} (ht : t = 8 ∨ t = 25) (h50 : M 5 0 = ((2 : Nat) : Int)) (hG : Gm T M) : cC k_P xs Ln (d + 85) 122 [rf 3, rf t] (T, M) (qG T M fS_122_m 0 (fun v M1 => 0 ≤ v ∧ v ≤ 1)) := by
  show cP k_P xs Ln (d + 85) 122 0 [(0, rf 3), (1, rf t)] [] (T, M) _
  have hFm : Fr fS_122_m M M := Fr.refl
  refine s_aload_n kx_122_0 rfl ?_
  refine r_getR (k := 3) (f := 1) (k2 := 5) kx_122_1 kp_122_22 (tk_3 hT) kf_10_1 (by decide) (rq_3_1 hI) ?_
  refine r_getI (k := 5) (f := 3) kx_122_4 kp_122_63 (tk_5 hT) kf_3_3 (fun _ => rfl) (rg_5_3 hI) (fun v1 v1e v1a v1b => ?_)
  refine s_iconst (v := 1) kx_122_7 (by decide) ?_
  refine s_icmp_eq (t := 19) kx_122_8 (by decide) (fun hc2 => ?_) (fun hc2 => ?_)
  · refine s_aload_n kx_122_19 rfl ?_
    refine r_getR (k := 3) (f := 1) (k2 := 5) kx_122_20 kp_122_22 (tk_3 hT) kf_10_1 (by decide) (rq_3_1 hI) ?_
    refine r_getU (k := 5) (f := 4) kx_122_23 kp_122_66 (tk_5 hT) kf_3_4 (fun _ => rfl) (fun v3 v3e => ?_)
    refine s_lswA kx_122_26 (by decide) (by decide) ?_ (And.intro (fun hs4 => ?_) (And.intro (fun hs4 => ?_) (And.intro (fun hs4 => ?_) (And.intro (fun hs4 => ?_) (And.intro (fun hs4 => ?_) (And.intro (fun hs4 => ?_) (And.intro (fun hs4 => ?_) (And.intro (fun hs4 => ?_) trivial))))))))
    · show cP k_P xs Ln (d + 85) 122 200 [(0, rf 3), (1, rf t)] [] (T, M) (qG T M fS_122_m 0 (fun v M1 => 0 ≤ v ∧ v ≤ 1))
      refine s_aload_n kx_122_200 rfl ?_
      refine r_getR (k := 3) (f := 1) (k2 := 5) kx_122_201 kp_122_22 (tk_3 hT) kf_10_1 (by decide) (rq_3_1 hI) ?_
      refine s_callV2 (k := 5) (s1 := 1) (s2 := 0) (as := []) (rest := []) kx_122_204 kp_122_60 (Or.inl rfl) rfl (tk_5 hT) ki_21 kcl_21 rfl rfl (by decide) (m_21 (d := d + 83) hT hI) (kW (fun v5 M6 hI6 fr6 v5p => ?_))
      have hFm6 := hFm.call fr6 rfl
      have tr7 := rg_5_2 hI6
      exact s_iret kx_122_207 (Or.inr ⟨kq_122, by omega⟩) ⟨_, _, _, rfl, rfl, hT, hI6, hFm6, (Gm.fr hG fr6 rfl), (by omega)⟩
    · show cP k_P xs Ln (d + 85) 122 194 [(0, rf 3), (1, rf t)] [] (T, M) (qG T M fS_122_m 0 (fun v M1 => 0 ≤ v ∧ v ≤ 1))
      refine s_aload_n kx_122_194 rfl ?_
      refine s_aload_n kx_122_195 rfl ?_
      refine s_callV2 (k := 3) (s1 := 2) (s2 := 0) (as := [rf t]) (rest := []) kx_122_196 kp_122_99 (Or.inl rfl) rfl (tk_3 hT) ki_130 kcl_130 rfl rfl (by decide) (m_130 (d := d + 81) hT hI ht h50) (kW (fun v8 M9 hI9 fr9 v8p => ?_))
      have hFm9 := hFm.call fr9 rfl
      have tr10 := rg_5_2 hI9
      exact s_iret kx_122_199 (Or.inr ⟨kq_122, by omega⟩) ⟨_, _, _, rfl, rfl, hT, hI9, hFm9, (Gm.fr hG fr9 rfl), (by omega)⟩
    · show cP k_P xs Ln (d + 85) 122 188 [(0, rf 3), (1, rf t)] [] (T, M) (qG T M fS_122_m 0 (fun v M1 => 0 ≤ v ∧ v ≤ 1))
      refine s_aload_n kx_122_188 rfl ?_
      refine s_aload_n kx_122_189 rfl ?_
      refine s_callV2 (k := 3) (s1 := 2) (s2 := 0) (as := [rf t]) (rest := []) kx_122_190 kp_122_96 (Or.inl rfl) rfl (tk_3 hT) ki_129 kcl_129 rfl rfl (by decide) (m_129 (d := d + 80) hT hI ht h50) (kW (fun v11 M12 hI12 fr12 v11p => ?_))
      have hFm12 := hFm.call fr12 rfl
      have tr13 := rg_5_2 hI12
      exact s_iret kx_122_193 (Or.inr ⟨kq_122, by omega⟩) ⟨_, _, _, rfl, rfl, hT, hI12, hFm12, (Gm.fr hG fr12 rfl), (by omega)⟩
    · show cP k_P xs Ln (d + 85) 122 118 [(0, rf 3), (1, rf t)] [] (T, M) (qG T M fS_122_m 0 (fun v M1 => 0 ≤ v ∧ v ≤ 1))
      refine s_aload_n kx_122_118 rfl ?_
      refine s_aload_n kx_122_119 rfl ?_
      refine s_callV2 (k := 3) (s1 := 2) (s2 := 0) (as := [rf t]) (rest := []) kx_122_120 kp_122_78 (Or.inl rfl) rfl (tk_3 hT) ki_127 kcl_127 rfl rfl (by decide) (m_127 (d := d + 81) hT hI ht h50) (kW (fun v14 M15 hI15 fr15 v14p => ?_))
      have hFm15 := hFm.call fr15 rfl
      have tr16 := rg_5_2 hI15
      exact s_iret kx_122_123 (Or.inr ⟨kq_122, by omega⟩) ⟨_, _, _, rfl, rfl, hT, hI15, hFm15, (Gm.fr hG fr15 rfl), (by omega)⟩
    · show cP k_P xs Ln (d + 85) 122 112 [(0, rf 3), (1, rf t)] [] (T, M) (qG T M fS_122_m 0 (fun v M1 => 0 ≤ v ∧ v ≤ 1))
      refine s_aload_n kx_122_112 rfl ?_
      refine s_aload_n kx_122_113 rfl ?_
      refine s_callV2 (k := 3) (s1 := 2) (s2 := 0) (as := [rf t]) (rest := []) kx_122_114 kp_122_75 (Or.inl rfl) rfl (tk_3 hT) ki_125 kcl_125 rfl rfl (by decide) (m_125 (d := d + 80) hT hI ht h50) (kW (fun v17 M18 hI18 fr18 v17p => ?_))
      have hFm18 := hFm.call fr18 rfl
      have tr19 := rg_5_2 hI18
      exact s_iret kx_122_117 (Or.inr ⟨kq_122, by omega⟩) ⟨_, _, _, rfl, rfl, hT, hI18, hFm18, (Gm.fr hG fr18 rfl), (by omega)⟩
    · show cP k_P xs Ln (d + 85) 122 100 [(0, rf 3), (1, rf t)] [] (T, M) (qG T M fS_122_m 0 (fun v M1 => 0 ≤ v ∧ v ≤ 1))
      refine s_aload_n kx_122_100 rfl ?_
      refine s_aload_n kx_122_101 rfl ?_
      refine s_callV2 (k := 3) (s1 := 2) (s2 := 0) (as := [rf t]) (rest := []) kx_122_102 kp_122_69 (Or.inl rfl) rfl (tk_3 hT) ki_123 kcl_123 rfl rfl (by decide) (m_123 (d := d + 80) hT hI ht h50) (kW (fun v20 M21 hI21 fr21 v20p => ?_))
      have hFm21 := hFm.call fr21 rfl
      have tr22 := rg_5_2 hI21
      exact s_iret kx_122_105 (Or.inr ⟨kq_122, by omega⟩) ⟨_, _, _, rfl, rfl, hT, hI21, hFm21, (Gm.fr hG fr21 rfl), (by omega)⟩
    · show cP k_P xs Ln (d + 85) 122 124 [(0, rf 3), (1, rf t)] [] (T, M) (qG T M fS_122_m 0 (fun v M1 => 0 ≤ v ∧ v ≤ 1))
      refine s_aload_n kx_122_124 rfl ?_
      refine s_aload_n kx_122_125 rfl ?_
      refine r_getR (k := t) (f := 14) (k2 := (t + 11)) kx_122_126 kp_122_81 (tkt_0 hT ht) kf_9_14 (by decide) (rqt_14 hI ht) ?_
      refine s_callV2 (k := 3) (s1 := 2) (s2 := 0) (as := [rf (t + 11)]) (rest := []) kx_122_129 kp_122_85 (Or.inl rfl) rfl (tk_3 hT) ki_128 kcl_128 rfl rfl (by decide) (m_128 (d := d + 81) hT hI h50 (fF_slow ht)) (kW (fun v23 M24 hI24 fr24 v23p => ?_))
      have hFm24 := hFm.call fr24 rfl
      have tr25 := rg_5_2 hI24
      refine s_if_eq (t := 154) kx_122_132 (by decide) (fun hc26 => ?_) (fun hc26 => ?_)
      · replace v23p := v23p.resolve_left (by omega)
        refine s_iconst (v := 0) kx_122_154 (by decide) ?_
        exact s_iret kx_122_155 (Or.inr ⟨kq_122, by omega⟩) ⟨_, _, _, rfl, rfl, hT, hI24, hFm24, (Gm.fr hG fr24 rfl), (by omega)⟩
      · replace v23p := v23p.resolve_right (by omega)
        refine s_aload_n kx_122_135 rfl ?_
        refine r_getR (k := 3) (f := 0) (k2 := 4) kx_122_136 kp_122_12 (tk_3 hT) kf_10_0 (by decide) (rq_3_0 hI24) ?_
        refine s_aload_n kx_122_139 rfl ?_
        refine r_getR (k := t) (f := 14) (k2 := (t + 11)) kx_122_140 kp_122_81 (tkt_0 hT ht) kf_9_14 (by decide) (rqt_14 hI24 ht) ?_
        refine s_iconst (v := 0) kx_122_143 (by decide) ?_
        refine s_callV2 (k := 4) (s1 := 3) (s2 := 0) (as := [(0, 0), rf (t + 11)]) (rest := []) kx_122_144 kp_122_89 (Or.inr rfl) rfl (tk_4 hT) ki_89 kcl_89 rfl rfl (by decide) (m_89 (d := d + 77) (o := 0) (k := 0) hT hI24 ((fr24 5 0 rfl).trans h50) (fF_slow ht) (Gm.fr hG fr24 rfl) (fun _ => lv_1.deep (by omega)) (by omega) (by omega) (by omega)) (kG (fun v27 T28 M28 hT28 hI28 fr28 hG28 v27p => ?_))
        have hFm28 := hFm24.call fr28 rfl
        have tr29 := rg_5_2 hI28
        refine s_if_eq (t := 154) kx_122_147 (by decide) (fun hc30 => ?_) (fun hc30 => ?_)
        · replace v27p := v27p.resolve_left (by omega)
          refine s_iconst (v := 0) kx_122_154 (by decide) ?_
          exact s_iret kx_122_155 (Or.inr ⟨kq_122, by omega⟩) ⟨_, _, _, rfl, rfl, hT28, hI28, hFm28, hG28, (by omega)⟩
        · replace v27p := v27p.resolve_right (by omega)
          refine s_iconst (v := 1) kx_122_150 (by decide) ?_
          refine s_goto (t := 155) kx_122_151 (by decide) ?_
          exact s_iret kx_122_155 (Or.inr ⟨kq_122, by omega⟩) ⟨_, _, _, rfl, rfl, hT28, hI28, hFm28, hG28, (by omega)⟩
    · show cP k_P xs Ln (d + 85) 122 156 [(0, rf 3), (1, rf t)] [] (T, M) (qG T M fS_122_m 0 (fun v M1 => 0 ≤ v ∧ v ≤ 1))
      refine s_aload_n kx_122_156 rfl ?_
      refine s_aload_n kx_122_157 rfl ?_
      refine r_getR (k := t) (f := 15) (k2 := (t + 14)) kx_122_158 kp_122_93 (tkt_0 hT ht) kf_9_15 (by decide) (rqt_15 hI ht) ?_
      refine s_callV2 (k := 3) (s1 := 2) (s2 := 0) (as := [rf (t + 14)]) (rest := []) kx_122_161 kp_122_85 (Or.inl rfl) rfl (tk_3 hT) ki_128 kcl_128 rfl rfl (by decide) (m_128 (d := d + 81) hT hI h50 (fF_stands ht)) (kW (fun v31 M32 hI32 fr32 v31p => ?_))
      have hFm32 := hFm.call fr32 rfl
      have tr33 := rg_5_2 hI32
      refine s_if_eq (t := 186) kx_122_164 (by decide) (fun hc34 => ?_) (fun hc34 => ?_)
      · replace v31p := v31p.resolve_left (by omega)
        refine s_iconst (v := 0) kx_122_186 (by decide) ?_
        exact s_iret kx_122_187 (Or.inr ⟨kq_122, by omega⟩) ⟨_, _, _, rfl, rfl, hT, hI32, hFm32, (Gm.fr hG fr32 rfl), (by omega)⟩
      · replace v31p := v31p.resolve_right (by omega)
        refine s_aload_n kx_122_167 rfl ?_
        refine r_getR (k := 3) (f := 0) (k2 := 4) kx_122_168 kp_122_12 (tk_3 hT) kf_10_0 (by decide) (rq_3_0 hI32) ?_
        refine s_aload_n kx_122_171 rfl ?_
        refine r_getR (k := t) (f := 15) (k2 := (t + 14)) kx_122_172 kp_122_93 (tkt_0 hT ht) kf_9_15 (by decide) (rqt_15 hI32 ht) ?_
        refine s_iconst (v := 0) kx_122_175 (by decide) ?_
        refine s_callV2 (k := 4) (s1 := 3) (s2 := 0) (as := [(0, 0), rf (t + 14)]) (rest := []) kx_122_176 kp_122_89 (Or.inr rfl) rfl (tk_4 hT) ki_89 kcl_89 rfl rfl (by decide) (m_89 (d := d + 77) (o := 0) (k := 0) hT hI32 ((fr32 5 0 rfl).trans h50) (fF_stands ht) (Gm.fr hG fr32 rfl) (fun _ => lv_1.deep (by omega)) (by omega) (by omega) (by omega)) (kG (fun v35 T36 M36 hT36 hI36 fr36 hG36 v35p => ?_))
        have hFm36 := hFm32.call fr36 rfl
        have tr37 := rg_5_2 hI36
        refine s_if_eq (t := 186) kx_122_179 (by decide) (fun hc38 => ?_) (fun hc38 => ?_)
        · replace v35p := v35p.resolve_left (by omega)
          refine s_iconst (v := 0) kx_122_186 (by decide) ?_
          exact s_iret kx_122_187 (Or.inr ⟨kq_122, by omega⟩) ⟨_, _, _, rfl, rfl, hT36, hI36, hFm36, hG36, (by omega)⟩
        · replace v35p := v35p.resolve_right (by omega)
          refine s_iconst (v := 1) kx_122_182 (by decide) ?_
          refine s_goto (t := 187) kx_122_183 (by decide) ?_
          exact s_iret kx_122_187 (Or.inr ⟨kq_122, by omega⟩) ⟨_, _, _, rfl, rfl, hT36, hI36, hFm36, hG36, (by omega)⟩
    · show cP k_P xs Ln (d + 85) 122 106 [(0, rf 3), (1, rf t)] [] (T, M) (qG T M fS_122_m 0 (fun v M1 => 0 ≤ v ∧ v ≤ 1))
      refine s_aload_n kx_122_106 rfl ?_
      refine s_aload_n kx_122_107 rfl ?_
      refine s_callV2 (k := 3) (s1 := 2) (s2 := 0) (as := [rf t]) (rest := []) kx_122_108 kp_122_72 (Or.inl rfl) rfl (tk_3 hT) ki_124 kcl_124 rfl rfl (by decide) (m_124 (d := d + 80) hT hI ht h50) (kW (fun v39 M40 hI40 fr40 v39p => ?_))
      have hFm40 := hFm.call fr40 rfl
      have tr41 := rg_5_2 hI40
      exact s_iret kx_122_111 (Or.inr ⟨kq_122, by omega⟩) ⟨_, _, _, rfl, rfl, hT, hI40, hFm40, (Gm.fr hG fr40 rfl), (by omega)⟩
  · refine s_aload_n kx_122_11 rfl ?_
    refine r_getR (k := 3) (f := 1) (k2 := 5) kx_122_12 kp_122_22 (tk_3 hT) kf_10_1 (by decide) (rq_3_1 hI) ?_
    refine s_callV2 (k := 5) (s1 := 1) (s2 := 0) (as := []) (rest := []) kx_122_15 kp_122_60 (Or.inl rfl) rfl (tk_5 hT) ki_21 kcl_21 rfl rfl (by decide) (m_21 (d := d + 83) hT hI) (kW (fun v42 M43 hI43 fr43 v42p => ?_))
    have hFm43 := hFm.call fr43 rfl
    have tr44 := rg_5_2 hI43
    exact s_iret kx_122_18 (Or.inr ⟨kq_122, by omega⟩) ⟨_, _, _, rfl, rfl, hT, hI43, hFm43, (Gm.fr hG fr43 rfl), (by omega)⟩
theorem kx_121_0 : x_code k_P 121 0 = some (.aload_n 2, 1) := by decide +kernel
theorem kx_121_1 : x_code k_P 121 1 = some (.invokevirtual 27, 3) := by decide +kernel
theorem kp_121_27 : x_pool k_P 121 27 = (2, 105, 0) := by decide +kernel
theorem ki_105 : x_mci k_P 105 = 9 := by decide +kernel
theorem kcl_105 : x_maxL k_P 105 ≤ 60 ∧ 1 ≤ x_maxL k_P 105 := by decide +kernel
theorem kx_121_4 : x_code k_P 121 4 = some (.aload_n 0, 1) := by decide +kernel
theorem kx_121_5 : x_code k_P 121 5 = some (.getfield 22, 3) := by decide +kernel
theorem kp_121_22 : x_pool k_P 121 22 = (1, 10, 1) := by decide +kernel
theorem kx_121_8 : x_code k_P 121 8 = some (.aload_n 1, 1) := by decide +kernel
theorem kx_121_9 : x_code k_P 121 9 = some (.invokevirtual 32, 3) := by decide +kernel
theorem kp_121_32 : x_pool k_P 121 32 = (2, 19, 1) := by decide +kernel
theorem ki_19 : x_mci k_P 19 = 3 := by decide +kernel
theorem kcl_19 : x_maxL k_P 19 ≤ 60 ∧ 2 ≤ x_maxL k_P 19 := by decide +kernel
theorem kx_121_12 : x_code k_P 121 12 = some (.iconst 0, 1) := by decide +kernel
theorem kx_121_13 : x_code k_P 121 13 = some (.istore_n 3, 1) := by decide +kernel
theorem km_121_3 : 3 < x_maxL k_P 121 := by decide +kernel
theorem kx_121_14 : x_code k_P 121 14 = some (.iload_n 3, 1) := by decide +kernel
theorem kx_121_15 : x_code k_P 121 15 = some (.bipush 80, 2) := by decide +kernel
theorem kx_121_17 : x_code k_P 121 17 = some (.if_icmp .gt 85, 3) := by decide +kernel
theorem kx_121_102 : x_code k_P 121 102 = some (.iconst (-1), 1) := by decide +kernel
theorem kx_121_103 : x_code k_P 121 103 = some (.ireturn, 1) := by decide +kernel
theorem kq_121 : x_retk k_P 121 = 1 := by decide +kernel
theorem kx_121_20 : x_code k_P 121 20 = some (.aload_n 0, 1) := by decide +kernel
theorem kx_121_21 : x_code k_P 121 21 = some (.getfield 22, 3) := by decide +kernel
theorem kx_121_24 : x_code k_P 121 24 = some (.invokevirtual 38, 3) := by decide +kernel
theorem kp_121_38 : x_pool k_P 121 38 = (2, 25, 0) := by decide +kernel
theorem kx_121_27 : x_code k_P 121 27 = some (.ifCond .eq 5, 3) := by decide +kernel
theorem kx_121_32 : x_code k_P 121 32 = some (.iload_n 3, 1) := by decide +kernel
theorem kx_121_33 : x_code k_P 121 33 = some (.bipush 80, 2) := by decide +kernel
theorem kx_121_35 : x_code k_P 121 35 = some (.if_icmp .ne 22, 3) := by decide +kernel
theorem kx_121_57 : x_code k_P 121 57 = some (.aload_n 0, 1) := by decide +kernel
theorem kx_121_58 : x_code k_P 121 58 = some (.getfield 22, 3) := by decide +kernel
theorem kx_121_61 : x_code k_P 121 61 = some (.invokevirtual 49, 3) := by decide +kernel
theorem kp_121_49 : x_pool k_P 121 49 = (2, 26, 0) := by decide +kernel
theorem kx_121_64 : x_code k_P 121 64 = some (.aload_n 0, 1) := by decide +kernel
theorem kx_121_65 : x_code k_P 121 65 = some (.aload_n 2, 1) := by decide +kernel
theorem kx_121_66 : x_code k_P 121 66 = some (.invokevirtual 52, 3) := by decide +kernel
theorem kp_121_52 : x_pool k_P 121 52 = (2, 122, 1) := by decide +kernel
theorem ki_122 : x_mci k_P 122 = 10 := by decide +kernel
theorem kcl_122 : x_maxL k_P 122 ≤ 60 ∧ 2 ≤ x_maxL k_P 122 := by decide +kernel
theorem kx_121_69 : x_code k_P 121 69 = some (.ifCond .ne 5, 3) := by decide +kernel
theorem kx_121_74 : x_code k_P 121 74 = some (.aload_n 0, 1) := by decide +kernel
theorem kx_121_75 : x_code k_P 121 75 = some (.getfield 22, 3) := by decide +kernel
theorem kx_121_78 : x_code k_P 121 78 = some (.bipush 59, 2) := by decide +kernel
theorem kx_121_80 : x_code k_P 121 80 = some (.invokevirtual 56, 3) := by decide +kernel
theorem kp_121_56 : x_pool k_P 121 56 = (2, 23, 1) := by decide +kernel
theorem kx_121_83 : x_code k_P 121 83 = some (.ifCond .ne 13, 3) := by decide +kernel
theorem kx_121_96 : x_code k_P 121 96 = some (.iinc 3 1, 3) := by decide +kernel
theorem kx_121_99 : x_code k_P 121 99 = some (.goto (-85), 3) := by decide +kernel
theorem kx_121_86 : x_code k_P 121 86 = some (.aload_n 0, 1) := by decide +kernel
theorem kx_121_87 : x_code k_P 121 87 = some (.getfield 22, 3) := by decide +kernel
theorem kx_121_90 : x_code k_P 121 90 = some (.invokevirtual 60, 3) := by decide +kernel
theorem kp_121_60 : x_pool k_P 121 60 = (2, 21, 0) := by decide +kernel
theorem kx_121_93 : x_code k_P 121 93 = some (.pop, 1) := by decide +kernel
theorem kx_121_94 : x_code k_P 121 94 = some (.iconst (-1), 1) := by decide +kernel
theorem kx_121_95 : x_code k_P 121 95 = some (.ireturn, 1) := by decide +kernel
theorem kx_121_72 : x_code k_P 121 72 = some (.iconst (-1), 1) := by decide +kernel
theorem kx_121_73 : x_code k_P 121 73 = some (.ireturn, 1) := by decide +kernel
theorem kx_121_38 : x_code k_P 121 38 = some (.aload_n 0, 1) := by decide +kernel
theorem kx_121_39 : x_code k_P 121 39 = some (.getfield 22, 3) := by decide +kernel
theorem kx_121_42 : x_code k_P 121 42 = some (.bipush 6, 2) := by decide +kernel
theorem kx_121_44 : x_code k_P 121 44 = some (.aload_n 0, 1) := by decide +kernel
theorem kx_121_45 : x_code k_P 121 45 = some (.getfield 22, 3) := by decide +kernel
theorem kx_121_48 : x_code k_P 121 48 = some (.getfield 42, 3) := by decide +kernel
theorem kp_121_42 : x_pool k_P 121 42 = (1, 3, 2) := by decide +kernel
theorem kx_121_51 : x_code k_P 121 51 = some (.invokevirtual 45, 3) := by decide +kernel
theorem kp_121_45 : x_pool k_P 121 45 = (2, 20, 2) := by decide +kernel
theorem kx_121_54 : x_code k_P 121 54 = some (.pop, 1) := by decide +kernel
theorem kx_121_55 : x_code k_P 121 55 = some (.iconst (-1), 1) := by decide +kernel
theorem kx_121_56 : x_code k_P 121 56 = some (.ireturn, 1) := by decide +kernel
theorem kx_121_30 : x_code k_P 121 30 = some (.iload_n 3, 1) := by decide +kernel
theorem kx_121_31 : x_code k_P 121 31 = some (.ireturn, 1) := by decide +kernel
def fS_121_l14 : List (Nat × Nat) := [(10, 99999), (11, 99999), (114, 99999), (12, 99999), (13, 99999), (14, 99999), (15, 99999), (16, 99999), (17, 99999), (18, 99999), (19, 1), (19, 2), (21, 99999), (22, 1), (22, 2), (24, 99999), (25, 0), (25, 1), (25, 2), (25, 3), (26, 99999), (27, 99999), (28, 99999), (29, 99999), (3, 2), (30, 99999), (31, 99999), (32, 99999), (33, 99999), (34, 99999), (35, 99999), (36, 1), (36, 2), (38, 99999), (39, 1), (39, 2), (41, 99999), (5, 2), (5, 3), (5, 4), (5, 5), (5, 6), (5, 7), (8, 0), (8, 1), (8, 2), (8, 3), (9, 99999)]
def fS_121_m : List (Nat × Nat) := [(10, 99999), (11, 99999), (114, 99999), (12, 99999), (13, 99999), (14, 99999), (15, 99999), (16, 99999), (17, 99999), (18, 99999), (19, 1), (19, 2), (21, 99999), (22, 1), (22, 2), (24, 99999), (25, 0), (25, 1), (25, 2), (25, 3), (26, 99999), (27, 99999), (28, 99999), (29, 99999), (3, 2), (30, 99999), (31, 99999), (32, 99999), (33, 99999), (34, 99999), (35, 99999), (36, 1), (36, 2), (38, 99999), (39, 1), (39, 2), (41, 99999), (5, 0), (5, 1), (5, 2), (5, 3), (5, 4), (5, 5), (5, 6), (5, 7), (8, 0), (8, 1), (8, 2), (8, 3), (9, 99999)]
theorem m_121 {xs : Nat → Int} {Ln d : Nat} {T : List cK} {M : cM} (hT : TT T) (hI : Rng M) {t : Nat} (ht : t = 8 ∨ t = 25) (hG : Gm T M) : cC k_P xs Ln (d + 86) 121 [rf 3, rf 1, rf t] (T, M) (qG T M fS_121_m 0 (fun v M1 => True)) := by
  show cP k_P xs Ln (d + 86) 121 0 [(0, rf 3), (1, rf 1), (2, rf t)] [] (T, M) _
  have hFm : Fr fS_121_m M M := Fr.refl
  refine s_aload_n kx_121_0 rfl ?_
  refine s_callV2 (k := t) (s1 := 1) (s2 := 0) (as := []) (rest := []) kx_121_1 kp_121_27 (Or.inl rfl) rfl (tkt_0 hT ht) ki_105 kcl_105 rfl rfl (by decide) (m_105 (d := d + 84) hT hI ht) (kV (fun M2 hI2 fr2 v1p => ?_))
  have hFm2 := hFm.call fr2 rfl
  have hGc := Gm.of hG (fun g hg => fr2 g 1 (by rcases hg with rfl | rfl | rfl | rfl <;> rfl)) v1p
  refine s_aload_n kx_121_4 rfl ?_
  refine r_getR (k := 3) (f := 1) (k2 := 5) kx_121_5 kp_121_22 (tk_3 hT) kf_10_1 (by decide) (rq_3_1 hI2) ?_
  refine s_aload_n kx_121_8 rfl ?_
  refine s_callV2 (k := 5) (s1 := 2) (s2 := 0) (as := [rf 1]) (rest := []) kx_121_9 kp_121_32 (Or.inl rfl) rfl (tk_5 hT) ki_19 kcl_19 rfl rfl (by decide) (m_19 (d := d + 84) hT hI2) (kV (fun M4 hI4 fr4 v3p => ?_))
  have hFm4 := hFm2.call fr4 rfl
  refine s_iconst (v := 0) kx_121_12 (by decide) ?_
  refine s_istore_n kx_121_13 km_121_3 rfl ?_
  have key7 : ∀ n8 : Nat, ∀ (x3_5 : Int), ∀ T6 : List cK, TT T6 → ∀ M6 : cM, Rng M6 → Fr fS_121_m M M6 → Fr fS_121_l14 M4 M6 → Gm T6 M6 → (0 ≤ x3_5) → (2147483647 - x3_5).toNat < n8 → cP k_P xs Ln (d + 86) 121 14 [(0, rf 3), (2, rf t), (3, (0, x3_5))] [] (T6, M6) (qG T M fS_121_m 0 (fun v M1 => True)) := by
    intro n8
    induction n8 with
    | zero => intro x3_5 T6 hT6 M6 hI6 hFm6 fl6 hG6 i9 hm10; exact absurd hm10 (Nat.not_lt_zero _)
    | succ n8 ih11 =>
      intro x3_5 T6 hT6 M6 hI6 hFm6 fl6 hG6 i9 hm10
      refine s_iload_n kx_121_14 rfl ?_
      refine s_bipush (v := 80) kx_121_15 (by decide) ?_
      refine s_icmp_gt (t := 102) kx_121_17 (by decide) (fun hc12 => ?_) (fun hc12 => ?_)
      · refine s_iconst (v := (-1)) kx_121_102 (by decide) ?_
        exact s_iret kx_121_103 (Or.inl kq_121) ⟨_, _, _, rfl, rfl, hT6, hI6, hFm6, hG6, trivial⟩
      · refine s_aload_n kx_121_20 rfl ?_
        refine r_getR (k := 3) (f := 1) (k2 := 5) kx_121_21 kp_121_22 (tk_3 hT6) kf_10_1 (by decide) (rq_3_1 hI6) ?_
        refine s_callV2 (k := 5) (s1 := 1) (s2 := 0) (as := []) (rest := []) kx_121_24 kp_121_38 (Or.inl rfl) rfl (tk_5 hT6) ki_25 kcl_25 rfl rfl (by decide) (m_25 (d := d + 85) hT6 hI6 ((fl6 5 0 rfl).trans v3p.1)) (kW (fun v13 M14 hI14 fr14 v13p => ?_))
        have hFm14 := hFm6.call fr14 rfl
        have hFl1414 := fl6.call fr14 rfl
        refine s_if_eq (t := 32) kx_121_27 (by decide) (fun hc15 => ?_) (fun hc15 => ?_)
        · replace v13p := v13p.resolve_left (by omega)
          refine s_iload_n kx_121_32 rfl ?_
          refine s_bipush (v := 80) kx_121_33 (by decide) ?_
          refine s_icmp_ne (t := 57) kx_121_35 (by decide) (fun hc16 => ?_) (fun hc16 => ?_)
          · refine s_aload_n kx_121_57 rfl ?_
            refine r_getR (k := 3) (f := 1) (k2 := 5) kx_121_58 kp_121_22 (tk_3 hT6) kf_10_1 (by decide) (rq_3_1 hI14) ?_
            refine s_callV2 (k := 5) (s1 := 1) (s2 := 0) (as := []) (rest := []) kx_121_61 kp_121_49 (Or.inl rfl) rfl (tk_5 hT6) ki_26 kcl_26 rfl rfl (by decide) (m_26 (d := d + 83) hT6 hI14 ((fr14 5 0 rfl).trans ((fl6 5 0 rfl).trans v3p.1))) (kV (fun M18 hI18 fr18 v17p => ?_))
            have hFm18 := hFm14.call fr18 rfl
            have hFl1418 := hFl1414.call fr18 rfl
            refine s_aload_n kx_121_64 rfl ?_
            refine s_aload_n kx_121_65 rfl ?_
            refine s_callV2 (k := 3) (s1 := 2) (s2 := 0) (as := [rf t]) (rest := []) kx_121_66 kp_121_52 (Or.inl rfl) rfl (tk_3 hT6) ki_122 kcl_122 rfl rfl (by decide) (m_122 (d := d) hT6 hI18 ht ((fr18 5 0 rfl).trans ((fr14 5 0 rfl).trans ((fl6 5 0 rfl).trans v3p.1))) (Gm.fr (Gm.fr hG6 fr14 rfl) fr18 rfl)) (kG (fun v19 T20 M20 hT20 hI20 fr20 hG20 v19p => ?_))
            have hFm20 := hFm18.call fr20 rfl
            have hFl1420 := hFl1418.call fr20 rfl
            refine s_if_ne (t := 74) kx_121_69 (by decide) (fun hc21 => ?_) (fun hc21 => ?_)
            · refine s_aload_n kx_121_74 rfl ?_
              refine r_getR (k := 3) (f := 1) (k2 := 5) kx_121_75 kp_121_22 (tk_3 hT20) kf_10_1 (by decide) (rq_3_1 hI20) ?_
              refine s_bipush (v := 59) kx_121_78 (by decide) ?_
              refine s_callV2 (k := 5) (s1 := 2) (s2 := 0) (as := [(0, 59)]) (rest := []) kx_121_80 kp_121_56 (Or.inl rfl) rfl (tk_5 hT20) ki_23 kcl_23 rfl rfl (by decide) (m_23 (d := d + 85) (c := 59) hT20 hI20) (kF (fun v22 v22p => ?_))
              refine s_if_ne (t := 96) kx_121_83 (by decide) (fun hc23 => ?_) (fun hc23 => ?_)
              · replace v22p := v22p.resolve_right (by omega)
                refine r_iinc kx_121_96 rfl km_121_3 (by decide) ⟨by omega, by omega⟩ rfl ?_
                refine s_goto (t := 14) kx_121_99 (by decide) ?_
                exact cP.wk (lS1 rfl (lS1 rfl (lS1 rfl lS0))) (ih11 (x3_5 + 1) T20 hT20 M20 hI20 hFm20 hFl1420 hG20 (by omega) (by omega))
              · replace v22p := v22p.resolve_left (by omega)
                refine s_aload_n kx_121_86 rfl ?_
                refine r_getR (k := 3) (f := 1) (k2 := 5) kx_121_87 kp_121_22 (tk_3 hT20) kf_10_1 (by decide) (rq_3_1 hI20) ?_
                refine s_callV2 (k := 5) (s1 := 1) (s2 := 0) (as := []) (rest := []) kx_121_90 kp_121_60 (Or.inl rfl) rfl (tk_5 hT20) ki_21 kcl_21 rfl rfl (by decide) (m_21 (d := d + 84) hT20 hI20) (kW (fun v24 M25 hI25 fr25 v24p => ?_))
                have hFm25 := hFm20.call fr25 rfl
                have hFl1425 := hFl1420.call fr25 rfl
                refine s_pop kx_121_93 rfl ?_
                refine s_iconst (v := (-1)) kx_121_94 (by decide) ?_
                exact s_iret kx_121_95 (Or.inl kq_121) ⟨_, _, _, rfl, rfl, hT20, hI25, hFm25, (Gm.fr hG20 fr25 rfl), trivial⟩
            · refine s_iconst (v := (-1)) kx_121_72 (by decide) ?_
              exact s_iret kx_121_73 (Or.inl kq_121) ⟨_, _, _, rfl, rfl, hT20, hI20, hFm20, hG20, trivial⟩
          · refine s_aload_n kx_121_38 rfl ?_
            refine r_getR (k := 3) (f := 1) (k2 := 5) kx_121_39 kp_121_22 (tk_3 hT6) kf_10_1 (by decide) (rq_3_1 hI14) ?_
            refine s_bipush (v := 6) kx_121_42 (by decide) ?_
            refine s_aload_n kx_121_44 rfl ?_
            refine r_getR (k := 3) (f := 1) (k2 := 5) kx_121_45 kp_121_22 (tk_3 hT6) kf_10_1 (by decide) (rq_3_1 hI14) ?_
            refine r_getI (k := 5) (f := 2) kx_121_48 kp_121_42 (tk_5 hT6) kf_3_2 (fun _ => rfl) (rg_5_2 hI14) (fun v26 v26e v26a v26b => ?_)
            refine s_callV2 (k := 5) (s1 := 3) (s2 := 0) (as := [(0, v26), (0, 6)]) (rest := []) kx_121_51 kp_121_45 (Or.inl rfl) rfl (tk_5 hT6) ki_20 kcl_20 rfl rfl (by decide) (m_20 (d := d + 85) (kind := 6) (place := v26) hT6 hI14) (kW (fun v27 M28 hI28 fr28 v27p => ?_))
            have hFm28 := hFm14.call fr28 rfl
            have hFl1428 := hFl1414.call fr28 rfl
            refine s_pop kx_121_54 rfl ?_
            refine s_iconst (v := (-1)) kx_121_55 (by decide) ?_
            exact s_iret kx_121_56 (Or.inl kq_121) ⟨_, _, _, rfl, rfl, hT6, hI28, hFm28, (Gm.fr (Gm.fr hG6 fr14 rfl) fr28 rfl), trivial⟩
        · replace v13p := v13p.resolve_right (by omega)
          refine s_iload_n kx_121_30 rfl ?_
          exact s_iret kx_121_31 (Or.inl kq_121) ⟨_, _, _, rfl, rfl, hT6, hI14, hFm14, (Gm.fr hG6 fr14 rfl), trivial⟩
  exact cP.wk (lS1 rfl (lS1 rfl (lS1 rfl lS0))) (key7 _ 0 T hT M4 hI4 hFm4 Fr.refl (Gm.fr hGc fr4 rfl) (by omega) (Nat.lt_succ_self _))
theorem kx_138_0 : x_code k_P 138 0 = some (.aload_n 0, 1) := by decide +kernel
theorem kx_138_1 : x_code k_P 138 1 = some (.getfield 19, 3) := by decide +kernel
theorem kp_138_19 : x_pool k_P 138 19 = (1, 11, 1) := by decide +kernel
theorem kf_11_1 : (x_cls k_P 11)[1]? = some 12 := by decide +kernel
theorem kx_138_4 : x_code k_P 138 4 = some (.aload_n 0, 1) := by decide +kernel
theorem kx_138_5 : x_code k_P 138 5 = some (.getfield 10, 3) := by decide +kernel
theorem kp_138_10 : x_pool k_P 138 10 = (1, 11, 0) := by decide +kernel
theorem kx_138_8 : x_code k_P 138 8 = some (.aload_n 0, 1) := by decide +kernel
theorem kx_138_9 : x_code k_P 138 9 = some (.getfield 26, 3) := by decide +kernel
theorem kp_138_26 : x_pool k_P 138 26 = (1, 11, 2) := by decide +kernel
theorem kx_138_12 : x_code k_P 138 12 = some (.getfield 89, 3) := by decide +kernel
theorem kp_138_89 : x_pool k_P 138 89 = (1, 5, 1) := by decide +kernel
theorem kx_138_15 : x_code k_P 138 15 = some (.invokevirtual 93, 3) := by decide +kernel
theorem kp_138_93 : x_pool k_P 138 93 = (2, 121, 2) := by decide +kernel
theorem ki_121 : x_mci k_P 121 = 10 := by decide +kernel
theorem kcl_121 : x_maxL k_P 121 ≤ 60 ∧ 3 ≤ x_maxL k_P 121 := by decide +kernel
theorem kx_138_18 : x_code k_P 138 18 = some (.istore_n 1, 1) := by decide +kernel
theorem km_138_1 : 1 < x_maxL k_P 138 := by decide +kernel
theorem kx_138_19 : x_code k_P 138 19 = some (.aload_n 0, 1) := by decide +kernel
theorem kx_138_20 : x_code k_P 138 20 = some (.getfield 10, 3) := by decide +kernel
theorem kx_138_23 : x_code k_P 138 23 = some (.iconst 0, 1) := by decide +kernel
theorem kx_138_24 : x_code k_P 138 24 = some (.putfield 78, 3) := by decide +kernel
theorem kp_138_78 : x_pool k_P 138 78 = (1, 8, 1) := by decide +kernel
theorem kx_138_27 : x_code k_P 138 27 = some (.aload_n 0, 1) := by decide +kernel
theorem kx_138_28 : x_code k_P 138 28 = some (.aload_n 0, 1) := by decide +kernel
theorem kx_138_29 : x_code k_P 138 29 = some (.getfield 19, 3) := by decide +kernel
theorem kx_138_32 : x_code k_P 138 32 = some (.getfield 97, 3) := by decide +kernel
theorem kp_138_97 : x_pool k_P 138 97 = (1, 10, 1) := by decide +kernel
theorem kx_138_35 : x_code k_P 138 35 = some (.getfield 101, 3) := by decide +kernel
theorem kp_138_101 : x_pool k_P 138 101 = (1, 3, 6) := by decide +kernel
theorem kx_138_38 : x_code k_P 138 38 = some (.putfield 69, 3) := by decide +kernel
theorem kp_138_69 : x_pool k_P 138 69 = (1, 11, 10) := by decide +kernel
theorem kx_138_41 : x_code k_P 138 41 = some (.aload_n 0, 1) := by decide +kernel
theorem kx_138_42 : x_code k_P 138 42 = some (.aload_n 0, 1) := by decide +kernel
theorem kx_138_43 : x_code k_P 138 43 = some (.getfield 69, 3) := by decide +kernel
theorem kx_138_46 : x_code k_P 138 46 = some (.ifCond .ne 7, 3) := by decide +kernel
theorem kx_138_53 : x_code k_P 138 53 = some (.aload_n 0, 1) := by decide +kernel
theorem kx_138_54 : x_code k_P 138 54 = some (.getfield 19, 3) := by decide +kernel
theorem kx_138_57 : x_code k_P 138 57 = some (.getfield 97, 3) := by decide +kernel
theorem kx_138_60 : x_code k_P 138 60 = some (.getfield 106, 3) := by decide +kernel
theorem kp_138_106 : x_pool k_P 138 106 = (1, 3, 7) := by decide +kernel
theorem kx_138_49 : x_code k_P 138 49 = some (.iconst (-1), 1) := by decide +kernel
theorem kx_138_50 : x_code k_P 138 50 = some (.goto 13, 3) := by decide +kernel
theorem kx_138_63 : x_code k_P 138 63 = some (.putfield 72, 3) := by decide +kernel
theorem kp_138_72 : x_pool k_P 138 72 = (1, 11, 11) := by decide +kernel
theorem kx_138_66 : x_code k_P 138 66 = some (.iload_n 1, 1) := by decide +kernel
theorem kx_138_67 : x_code k_P 138 67 = some (.iconst (-1), 1) := by decide +kernel
theorem kx_138_68 : x_code k_P 138 68 = some (.if_icmp .ne 9, 3) := by decide +kernel
theorem kx_138_77 : x_code k_P 138 77 = some (.aload_n 0, 1) := by decide +kernel
theorem kx_138_78 : x_code k_P 138 78 = some (.getfield 26, 3) := by decide +kernel
theorem kx_138_81 : x_code k_P 138 81 = some (.invokevirtual 107, 3) := by decide +kernel
theorem kp_138_107 : x_pool k_P 138 107 = (2, 42, 0) := by decide +kernel
theorem ki_42 : x_mci k_P 42 = 5 := by decide +kernel
theorem kcl_42 : x_maxL k_P 42 ≤ 60 ∧ 1 ≤ x_maxL k_P 42 := by decide +kernel
theorem kx_138_84 : x_code k_P 138 84 = some (.aload_n 0, 1) := by decide +kernel
theorem kx_138_85 : x_code k_P 138 85 = some (.getfield 33, 3) := by decide +kernel
theorem kp_138_33 : x_pool k_P 138 33 = (1, 11, 3) := by decide +kernel
theorem kx_138_88 : x_code k_P 138 88 = some (.iconst 0, 1) := by decide +kernel
theorem kx_138_89 : x_code k_P 138 89 = some (.putfield 110, 3) := by decide +kernel
theorem kp_138_110 : x_pool k_P 138 110 = (1, 2, 2) := by decide +kernel
theorem kx_138_92 : x_code k_P 138 92 = some (.aload_n 0, 1) := by decide +kernel
theorem kx_138_93 : x_code k_P 138 93 = some (.getfield 47, 3) := by decide +kernel
theorem kp_138_47 : x_pool k_P 138 47 = (1, 11, 5) := by decide +kernel
theorem kx_138_96 : x_code k_P 138 96 = some (.iconst 0, 1) := by decide +kernel
theorem kx_138_97 : x_code k_P 138 97 = some (.putfield 113, 3) := by decide +kernel
theorem kp_138_113 : x_pool k_P 138 113 = (1, 0, 2) := by decide +kernel
theorem kx_138_100 : x_code k_P 138 100 = some (.aload_n 0, 1) := by decide +kernel
theorem kx_138_101 : x_code k_P 138 101 = some (.getfield 54, 3) := by decide +kernel
theorem kp_138_54 : x_pool k_P 138 54 = (1, 11, 6) := by decide +kernel
theorem kx_138_104 : x_code k_P 138 104 = some (.iconst 0, 1) := by decide +kernel
theorem kx_138_105 : x_code k_P 138 105 = some (.putfield 116, 3) := by decide +kernel
theorem kp_138_116 : x_pool k_P 138 116 = (1, 6, 6) := by decide +kernel
theorem kx_138_108 : x_code k_P 138 108 = some (.iload_n 1, 1) := by decide +kernel
theorem kx_138_109 : x_code k_P 138 109 = some (.ireturn, 1) := by decide +kernel
theorem kq_138 : x_retk k_P 138 = 1 := by decide +kernel
theorem kx_138_71 : x_code k_P 138 71 = some (.aload_n 0, 1) := by decide +kernel
theorem kx_138_72 : x_code k_P 138 72 = some (.iconst 1, 1) := by decide +kernel
theorem kx_138_73 : x_code k_P 138 73 = some (.invokevirtual 81, 3) := by decide +kernel
theorem kp_138_81 : x_pool k_P 138 81 = (2, 165, 1) := by decide +kernel
theorem kx_138_76 : x_code k_P 138 76 = some (.ireturn, 1) := by decide +kernel
def fS_138_m : List (Nat × Nat) := [(0, 10), (0, 11), (1, 1), (10, 99999), (11, 99999), (114, 99999), (12, 99999), (13, 99999), (14, 99999), (15, 99999), (16, 99999), (17, 99999), (18, 99999), (19, 1), (19, 2), (21, 99999), (22, 1), (22, 2), (24, 99999), (25, 0), (25, 1), (25, 2), (25, 3), (26, 99999), (27, 99999), (28, 99999), (29, 99999), (3, 2), (30, 99999), (31, 99999), (32, 99999), (33, 99999), (34, 99999), (35, 99999), (36, 1), (36, 2), (38, 99999), (39, 1), (39, 2), (41, 99999), (42, 99999), (44, 2), (5, 0), (5, 1), (5, 2), (5, 3), (5, 4), (5, 5), (5, 6), (5, 7), (51, 2), (54, 6), (61, 99999), (7, 0), (7, 1), (8, 0), (8, 1), (8, 2), (8, 3), (9, 99999)]
def fS_138_j46 : List (Nat × Nat) := []
theorem m_138 {xs : Nat → Int} {Ln d : Nat} {T : List cK} {M : cM} (hT : TT T) (hI : Rng M) (hG : Gm T M) {t u : Nat} (ht : t = 8 ∨ t = 25) (hu : u = 8 ∨ u = 25) (h71 : M 7 1 = ((t : Nat) : Int)) (h7u : M 7 0 = ((u : Nat) : Int)) : cC k_P xs Ln (d + 87) 138 [rf 0] (T, M) (qG T M fS_138_m 0 (fun v M1 => (M1 7 0 = ((t : Nat) : Int) ∧ M1 7 1 = ((u : Nat) : Int) ∨ M1 7 0 = ((u : Nat) : Int) ∧ M1 7 1 = ((t : Nat) : Int)) ∧ M1 1 1 = 0)) := by
  show cP k_P xs Ln (d + 87) 138 0 [(0, rf 0)] [] (T, M) _
  have hFm : Fr fS_138_m M M := Fr.refl
  refine s_aload_n kx_138_0 rfl ?_
  refine r_getR (k := 0) (f := 1) (k2 := 3) kx_138_1 kp_138_19 (tk_0 hT) kf_11_1 (by decide) (rq_0_1 hI) ?_
  refine s_aload_n kx_138_4 rfl ?_
  refine r_getR (k := 0) (f := 0) (k2 := 1) kx_138_5 kp_138_10 (tk_0 hT) kf_11_0 (by decide) (rq_0_0 hI) ?_
  refine s_aload_n kx_138_8 rfl ?_
  refine r_getR (k := 0) (f := 2) (k2 := 7) kx_138_9 kp_138_26 (tk_0 hT) kf_11_2 (by decide) (rq_0_2 hI) ?_
  refine r_getR (k := 7) (f := 1) (k2 := t) kx_138_12 kp_138_89 (tk_7 hT) kf_5_1 (by decide) h71 ?_
  refine s_callV2 (k := 3) (s1 := 3) (s2 := 0) (as := [rf t, rf 1]) (rest := []) kx_138_15 kp_138_93 (Or.inl rfl) rfl (tk_3 hT) ki_121 kcl_121 rfl rfl (by decide) (m_121 (d := d) hT hI ht hG) (kG (fun v1 T2 M2 hT2 hI2 fr2 hG2 v1p => ?_))
  have hFm2 := hFm.call fr2 rfl
  refine s_istore_n kx_138_18 km_138_1 rfl ?_
  refine s_aload_n kx_138_19 rfl ?_
  refine r_getR (k := 0) (f := 0) (k2 := 1) kx_138_20 kp_138_10 (tk_0 hT2) kf_11_0 (by decide) (rq_0_0 hI2) ?_
  refine s_iconst (v := 0) kx_138_23 (by decide) ?_
  refine r_put (k := 1) (f := 1) kx_138_24 kp_138_78 (tk_1 hT2) kf_8_1 rfl (by decide) (by decide) hI2 (ru_1_1 (by omega) (by omega)) (fun M3 hI3 u3 => ?_)
  have hFm3 := hFm2.up u3 rfl
  refine s_aload_n kx_138_27 rfl ?_
  refine s_aload_n kx_138_28 rfl ?_
  refine r_getR (k := 0) (f := 1) (k2 := 3) kx_138_29 kp_138_19 (tk_0 hT2) kf_11_1 (by decide) (rq_0_1 hI3) ?_
  refine r_getR (k := 3) (f := 1) (k2 := 5) kx_138_32 kp_138_97 (tk_3 hT2) kf_10_1 (by decide) (rq_3_1 hI3) ?_
  refine r_getU (k := 5) (f := 6) kx_138_35 kp_138_101 (tk_5 hT2) kf_3_6 (fun _ => rfl) (fun v4 v4e => ?_)
  refine r_put (k := 0) (f := 10) kx_138_38 kp_138_69 (tk_0 hT2) kf_11_10 rfl (by decide) (by decide) hI3 ru_0_10 (fun M5 hI5 u5 => ?_)
  have hFm5 := hFm3.up u5 rfl
  refine s_aload_n kx_138_41 rfl ?_
  refine s_aload_n kx_138_42 rfl ?_
  refine r_getK (k := 0) (f := 10) kx_138_43 kp_138_69 (tk_0 hT2) kf_11_10 (fun _ => rfl) u5.1 ?_
  have jn11 : ∀ (y10 : Int), cP k_P xs Ln (d + 87) 138 63 [(0, rf 0), (1, (0, v1))] [(0, y10), rf 0] (T2, M5) (qG T M fS_138_m 0 (fun v M1 => (M1 7 0 = ((t : Nat) : Int) ∧ M1 7 1 = ((u : Nat) : Int) ∨ M1 7 0 = ((u : Nat) : Int) ∧ M1 7 1 = ((t : Nat) : Int)) ∧ M1 1 1 = 0)) := by
    intro y10
    refine r_put (k := 0) (f := 11) kx_138_63 kp_138_72 (tk_0 hT2) kf_11_11 rfl (by decide) (by decide) hI5 ru_0_11 (fun M12 hI12 u12 => ?_)
    have hFm12 := hFm5.up u12 rfl
    refine s_iload_n kx_138_66 rfl ?_
    refine s_iconst (v := (-1)) kx_138_67 (by decide) ?_
    refine s_icmp_ne (t := 77) kx_138_68 (by decide) (fun hc13 => ?_) (fun hc13 => ?_)
    · refine s_aload_n kx_138_77 rfl ?_
      refine r_getR (k := 0) (f := 2) (k2 := 7) kx_138_78 kp_138_26 (tk_0 hT2) kf_11_2 (by decide) (rq_0_2 hI12) ?_
      refine s_callV2 (k := 7) (s1 := 1) (s2 := 0) (as := []) (rest := []) kx_138_81 kp_138_107 (Or.inl rfl) rfl (tk_7 hT2) ki_42 kcl_42 rfl rfl (by decide) (m_42 (d := d + 85) hT2 hI12 ht hu ((u12.2 7 1 (by omega)).trans ((u5.2 7 1 (by omega)).trans ((u3.2 7 1 (by omega)).trans ((fr2 7 1 rfl).trans h71)))) ((u12.2 7 0 (by omega)).trans ((u5.2 7 0 (by omega)).trans ((u3.2 7 0 (by omega)).trans ((fr2 7 0 rfl).trans h7u))))) (kV (fun M15 hI15 fr15 v14p => ?_))
      have hFm15 := hFm12.call fr15 rfl
      refine s_aload_n kx_138_84 rfl ?_
      refine r_getR (k := 0) (f := 3) (k2 := 44) kx_138_85 kp_138_33 (tk_0 hT2) kf_11_3 (by decide) (rq_0_3 hI15) ?_
      refine s_iconst (v := 0) kx_138_88 (by decide) ?_
      refine r_put (k := 44) (f := 2) kx_138_89 kp_138_110 (tk_44 hT2) kf_2_2 rfl (by decide) (by decide) hI15 ru_44_2 (fun M16 hI16 u16 => ?_)
      have hFm16 := hFm15.up u16 rfl
      refine s_aload_n kx_138_92 rfl ?_
      refine r_getR (k := 0) (f := 5) (k2 := 51) kx_138_93 kp_138_47 (tk_0 hT2) kf_11_5 (by decide) (rq_0_5 hI16) ?_
      refine s_iconst (v := 0) kx_138_96 (by decide) ?_
      refine r_put (k := 51) (f := 2) kx_138_97 kp_138_113 (tk_51 hT2) kf_0_2 rfl (by decide) (by decide) hI16 (ru_51_2 (by omega) (by omega)) (fun M17 hI17 u17 => ?_)
      have hFm17 := hFm16.up u17 rfl
      refine s_aload_n kx_138_100 rfl ?_
      refine r_getR (k := 0) (f := 6) (k2 := 54) kx_138_101 kp_138_54 (tk_0 hT2) kf_11_6 (by decide) (rq_0_6 hI17) ?_
      refine s_iconst (v := 0) kx_138_104 (by decide) ?_
      refine r_put (k := 54) (f := 6) kx_138_105 kp_138_116 (tk_54 hT2) kf_6_6 rfl (by decide) (by decide) hI17 (ru_54_6 (by omega) (by omega)) (fun M18 hI18 u18 => ?_)
      have hFm18 := hFm17.up u18 rfl
      refine s_iload_n kx_138_108 rfl ?_
      exact s_iret kx_138_109 (Or.inl kq_138) ⟨_, _, _, rfl, rfl, hT2, hI18, hFm18, (Gm.fr (Gm.fr (Gm.fr (Gm.fr (Gm.fr (Gm.fr (Gm.fr hG2 (Up.fr u3) rfl) (Up.fr u5) rfl) (Up.fr u12) rfl) fr15 rfl) (Up.fr u16) rfl) (Up.fr u17) rfl) (Up.fr u18) rfl), ⟨Or.inl ⟨((u18.2 7 0 (by omega)).trans ((u17.2 7 0 (by omega)).trans ((u16.2 7 0 (by omega)).trans v14p.1))), ((u18.2 7 1 (by omega)).trans ((u17.2 7 1 (by omega)).trans ((u16.2 7 1 (by omega)).trans v14p.2)))⟩, ((u18.2 1 1 (by omega)).trans ((u17.2 1 1 (by omega)).trans ((u16.2 1 1 (by omega)).trans ((fr15 1 1 rfl).trans ((u12.2 1 1 (by omega)).trans ((u5.2 1 1 (by omega)).trans u3.1))))))⟩⟩
    · refine s_aload_n kx_138_71 rfl ?_
      refine s_iconst (v := 1) kx_138_72 (by decide) ?_
      refine s_callV2 (k := 0) (s1 := 2) (s2 := 0) (as := [(0, 1)]) (rest := []) kx_138_73 kp_138_81 (Or.inl rfl) rfl (tk_0 hT2) ki_165 kcl_165 rfl rfl (by decide) (m_165 (d := d + 86) (kind := 1) hT2 hI12) (kW (fun v19 M20 hI20 fr20 v19p => ?_))
      have hFm20 := hFm12.call fr20 rfl
      exact s_iret kx_138_76 (Or.inl kq_138) ⟨_, _, _, rfl, rfl, hT2, hI20, hFm20, (Gm.fr (Gm.fr (Gm.fr (Gm.fr hG2 (Up.fr u3) rfl) (Up.fr u5) rfl) (Up.fr u12) rfl) fr20 rfl), ⟨Or.inr ⟨((fr20 7 0 rfl).trans ((u12.2 7 0 (by omega)).trans ((u5.2 7 0 (by omega)).trans ((u3.2 7 0 (by omega)).trans ((fr2 7 0 rfl).trans h7u))))), ((fr20 7 1 rfl).trans ((u12.2 7 1 (by omega)).trans ((u5.2 7 1 (by omega)).trans ((u3.2 7 1 (by omega)).trans ((fr2 7 1 rfl).trans h71)))))⟩, ((fr20 1 1 rfl).trans ((u12.2 1 1 (by omega)).trans ((u5.2 1 1 (by omega)).trans u3.1)))⟩⟩
  refine s_if_ne (t := 53) kx_138_46 (by decide) (fun hc6 => ?_) (fun hc6 => ?_)
  · have hJ7 : Fr fS_138_j46 M5 M5 := Fr.refl
    refine s_aload_n kx_138_53 rfl ?_
    refine r_getR (k := 0) (f := 1) (k2 := 3) kx_138_54 kp_138_19 (tk_0 hT2) kf_11_1 (by decide) (rq_0_1 hI5) ?_
    refine r_getR (k := 3) (f := 1) (k2 := 5) kx_138_57 kp_138_97 (tk_3 hT2) kf_10_1 (by decide) (rq_3_1 hI5) ?_
    refine r_getU (k := 5) (f := 7) kx_138_60 kp_138_106 (tk_5 hT2) kf_3_7 (fun _ => rfl) (fun v8 v8e => ?_)
    exact cP.wk (lS1 rfl (lS1 rfl lS0)) (jn11 v8)
  · have hJ9 : Fr fS_138_j46 M5 M5 := Fr.refl
    refine s_iconst (v := (-1)) kx_138_49 (by decide) ?_
    refine s_goto (t := 63) kx_138_50 (by decide) ?_
    exact cP.wk (lS1 rfl (lS1 rfl lS0)) (jn11 (-1))
