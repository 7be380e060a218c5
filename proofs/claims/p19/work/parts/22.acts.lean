theorem kx_63_0 : x_code k_P 63 0 = some (.aload_n 0, 1) := by decide +kernel
theorem kx_63_1 : x_code k_P 63 1 = some (.getfield 27, 3) := by decide +kernel
theorem kp_63_27 : x_pool k_P 63 27 = (1, 5, 3) := by decide +kernel
theorem kf_5_3 : (x_cls k_P 5)[3]? = some 12 := by decide +kernel
theorem kx_63_4 : x_code k_P 63 4 = some (.iconst 0, 1) := by decide +kernel
theorem kx_63_5 : x_code k_P 63 5 = some (.iload_n 3, 1) := by decide +kernel
theorem kx_63_6 : x_code k_P 63 6 = some (.iastore, 1) := by decide +kernel
theorem kx_63_7 : x_code k_P 63 7 = some (.aload_n 0, 1) := by decide +kernel
theorem kx_63_8 : x_code k_P 63 8 = some (.getfield 27, 3) := by decide +kernel
theorem kx_63_11 : x_code k_P 63 11 = some (.iconst 1, 1) := by decide +kernel
theorem kx_63_12 : x_code k_P 63 12 = some (.aload_n 0, 1) := by decide +kernel
theorem kx_63_13 : x_code k_P 63 13 = some (.getfield 14, 3) := by decide +kernel
theorem kp_63_14 : x_pool k_P 63 14 = (1, 5, 0) := by decide +kernel
theorem kx_63_16 : x_code k_P 63 16 = some (.getfield 126, 3) := by decide +kernel
theorem kp_63_126 : x_pool k_P 63 126 = (1, 9, 10) := by decide +kernel
theorem kx_63_19 : x_code k_P 63 19 = some (.iload_n 2, 1) := by decide +kernel
theorem kx_63_20 : x_code k_P 63 20 = some (.iaload, 1) := by decide +kernel
theorem kx_63_21 : x_code k_P 63 21 = some (.iastore, 1) := by decide +kernel
theorem kx_63_22 : x_code k_P 63 22 = some (.aload_n 0, 1) := by decide +kernel
theorem kx_63_23 : x_code k_P 63 23 = some (.getfield 27, 3) := by decide +kernel
theorem kx_63_26 : x_code k_P 63 26 = some (.iconst 2, 1) := by decide +kernel
theorem kx_63_27 : x_code k_P 63 27 = some (.aload_n 0, 1) := by decide +kernel
theorem kx_63_28 : x_code k_P 63 28 = some (.getfield 14, 3) := by decide +kernel
theorem kx_63_31 : x_code k_P 63 31 = some (.getfield 129, 3) := by decide +kernel
theorem kp_63_129 : x_pool k_P 63 129 = (1, 9, 9) := by decide +kernel
theorem kx_63_34 : x_code k_P 63 34 = some (.iload_n 1, 1) := by decide +kernel
theorem kx_63_35 : x_code k_P 63 35 = some (.iaload, 1) := by decide +kernel
theorem kx_63_36 : x_code k_P 63 36 = some (.iastore, 1) := by decide +kernel
theorem kx_63_37 : x_code k_P 63 37 = some (.aload_n 0, 1) := by decide +kernel
theorem kx_63_38 : x_code k_P 63 38 = some (.getfield 27, 3) := by decide +kernel
theorem kx_63_41 : x_code k_P 63 41 = some (.iconst 3, 1) := by decide +kernel
theorem kx_63_42 : x_code k_P 63 42 = some (.aload_n 0, 1) := by decide +kernel
theorem kx_63_43 : x_code k_P 63 43 = some (.getfield 14, 3) := by decide +kernel
theorem kx_63_46 : x_code k_P 63 46 = some (.getfield 69, 3) := by decide +kernel
theorem kp_63_69 : x_pool k_P 63 69 = (1, 9, 11) := by decide +kernel
theorem kx_63_49 : x_code k_P 63 49 = some (.iload_n 2, 1) := by decide +kernel
theorem kx_63_50 : x_code k_P 63 50 = some (.iaload, 1) := by decide +kernel
theorem kx_63_51 : x_code k_P 63 51 = some (.iastore, 1) := by decide +kernel
theorem kx_63_52 : x_code k_P 63 52 = some (.aload_n 0, 1) := by decide +kernel
theorem kx_63_53 : x_code k_P 63 53 = some (.getfield 27, 3) := by decide +kernel
theorem kx_63_56 : x_code k_P 63 56 = some (.iconst 4, 1) := by decide +kernel
theorem kx_63_57 : x_code k_P 63 57 = some (.aload_n 0, 1) := by decide +kernel
theorem kx_63_58 : x_code k_P 63 58 = some (.iload_n 1, 1) := by decide +kernel
theorem kx_63_59 : x_code k_P 63 59 = some (.invokevirtual 50, 3) := by decide +kernel
theorem kp_63_50 : x_pool k_P 63 50 = (2, 46, 1) := by decide +kernel
theorem kx_63_62 : x_code k_P 63 62 = some (.iastore, 1) := by decide +kernel
theorem kx_63_63 : x_code k_P 63 63 = some (.aload_n 0, 1) := by decide +kernel
theorem kx_63_64 : x_code k_P 63 64 = some (.getfield 27, 3) := by decide +kernel
theorem kx_63_67 : x_code k_P 63 67 = some (.iconst 5, 1) := by decide +kernel
theorem kx_63_68 : x_code k_P 63 68 = some (.iload_n 2, 1) := by decide +kernel
theorem kx_63_69 : x_code k_P 63 69 = some (.iload_n 1, 1) := by decide +kernel
theorem kx_63_70 : x_code k_P 63 70 = some (.if_icmp .ne 7, 3) := by decide +kernel
theorem kx_63_77 : x_code k_P 63 77 = some (.iconst 0, 1) := by decide +kernel
theorem kx_63_78 : x_code k_P 63 78 = some (.iastore, 1) := by decide +kernel
theorem kx_63_79 : x_code k_P 63 79 = some (.return_, 1) := by decide +kernel
theorem kq_63 : x_retk k_P 63 = 0 := by decide +kernel
theorem kx_63_73 : x_code k_P 63 73 = some (.iconst 1, 1) := by decide +kernel
theorem kx_63_74 : x_code k_P 63 74 = some (.goto 4, 3) := by decide +kernel
def fS_63_m : List (Nat × Nat) := [(43, 99999)]
theorem m_63 {xs : Nat → Int} {Ln d : Nat} {T : List cK} {M : cM} (hT : TT T) (hI : Rng M) {t : Nat} (ht : t = 8 ∨ t = 25) (h70 : M 7 0 = ((t : Nat) : Int)) {person chair minutes : Int} (p0 : 0 ≤ person ∧ person ≤ 7) (p1 : 0 ≤ chair ∧ chair ≤ 7) : cC k_P xs Ln (d + 1) 63 [rf 7, (0, person), (0, chair), (0, minutes)] (T, M) (qV T M fS_63_m (fun M1 => True)) := by
  show cP k_P xs Ln (d + 1) 63 0 [(0, rf 7), (1, (0, person)), (2, (0, chair)), (3, (0, minutes))] [] (T, M) _
  have hFm : Fr fS_63_m M M := Fr.refl
  refine s_aload_n kx_63_0 rfl ?_
  refine r_getR (k := 7) (f := 3) (k2 := 43) kx_63_1 kp_63_27 (tk_7 hT) kf_5_3 (by decide) (rq_7_3 hI) ?_
  refine s_iconst (v := 0) kx_63_4 (by decide) ?_
  refine s_iload_n kx_63_5 rfl ?_
  refine r_ast (k := 43) kx_63_6 (tk_43 hT) ⟨by decide, by decide⟩ hI ru_43 (fun M1 hI1 u1 => ?_)
  have hFm1 := hFm.up u1 rfl
  refine s_aload_n kx_63_7 rfl ?_
  refine r_getR (k := 7) (f := 3) (k2 := 43) kx_63_8 kp_63_27 (tk_7 hT) kf_5_3 (by decide) (rq_7_3 hI1) ?_
  refine s_iconst (v := 1) kx_63_11 (by decide) ?_
  refine s_aload_n kx_63_12 rfl ?_
  refine r_getR (k := 7) (f := 0) (k2 := t) kx_63_13 kp_63_14 (tk_7 hT) kf_5_0 (by decide) ((u1.2 7 0 (by omega)).trans h70) ?_
  refine r_getR (k := t) (f := 10) (k2 := (t + 7)) kx_63_16 kp_63_126 (tkt_0 hT ht) kf_9_10 (by decide) (rqt_10 hI1 ht) ?_
  refine s_iload_n kx_63_19 rfl ?_
  refine r_aldU (k := (t + 7)) kx_63_20 (tkt_7 hT ht) ⟨by omega, by omega⟩ (fun v2 v2e => ?_)
  refine r_ast (k := 43) kx_63_21 (tk_43 hT) ⟨by decide, by decide⟩ hI1 ru_43 (fun M3 hI3 u3 => ?_)
  have hFm3 := hFm1.up u3 rfl
  refine s_aload_n kx_63_22 rfl ?_
  refine r_getR (k := 7) (f := 3) (k2 := 43) kx_63_23 kp_63_27 (tk_7 hT) kf_5_3 (by decide) (rq_7_3 hI3) ?_
  refine s_iconst (v := 2) kx_63_26 (by decide) ?_
  refine s_aload_n kx_63_27 rfl ?_
  refine r_getR (k := 7) (f := 0) (k2 := t) kx_63_28 kp_63_14 (tk_7 hT) kf_5_0 (by decide) ((u3.2 7 0 (by omega)).trans ((u1.2 7 0 (by omega)).trans h70)) ?_
  refine r_getR (k := t) (f := 9) (k2 := (t + 6)) kx_63_31 kp_63_129 (tkt_0 hT ht) kf_9_9 (by decide) (rqt_9 hI3 ht) ?_
  refine s_iload_n kx_63_34 rfl ?_
  refine r_aldU (k := (t + 6)) kx_63_35 (tkt_6 hT ht) ⟨by omega, by omega⟩ (fun v4 v4e => ?_)
  refine r_ast (k := 43) kx_63_36 (tk_43 hT) ⟨by decide, by decide⟩ hI3 ru_43 (fun M5 hI5 u5 => ?_)
  have hFm5 := hFm3.up u5 rfl
  refine s_aload_n kx_63_37 rfl ?_
  refine r_getR (k := 7) (f := 3) (k2 := 43) kx_63_38 kp_63_27 (tk_7 hT) kf_5_3 (by decide) (rq_7_3 hI5) ?_
  refine s_iconst (v := 3) kx_63_41 (by decide) ?_
  refine s_aload_n kx_63_42 rfl ?_
  refine r_getR (k := 7) (f := 0) (k2 := t) kx_63_43 kp_63_14 (tk_7 hT) kf_5_0 (by decide) ((u5.2 7 0 (by omega)).trans ((u3.2 7 0 (by omega)).trans ((u1.2 7 0 (by omega)).trans h70))) ?_
  refine r_getR (k := t) (f := 11) (k2 := (t + 8)) kx_63_46 kp_63_69 (tkt_0 hT ht) kf_9_11 (by decide) (rqt_11 hI5 ht) ?_
  refine s_iload_n kx_63_49 rfl ?_
  refine r_aldU (k := (t + 8)) kx_63_50 (tkt_8 hT ht) ⟨by omega, by omega⟩ (fun v6 v6e => ?_)
  refine r_ast (k := 43) kx_63_51 (tk_43 hT) ⟨by decide, by decide⟩ hI5 ru_43 (fun M7 hI7 u7 => ?_)
  have hFm7 := hFm5.up u7 rfl
  refine s_aload_n kx_63_52 rfl ?_
  refine r_getR (k := 7) (f := 3) (k2 := 43) kx_63_53 kp_63_27 (tk_7 hT) kf_5_3 (by decide) (rq_7_3 hI7) ?_
  refine s_iconst (v := 4) kx_63_56 (by decide) ?_
  refine s_aload_n kx_63_57 rfl ?_
  refine s_iload_n kx_63_58 rfl ?_
  refine s_callV2 (k := 7) (s1 := 2) (s2 := 2) (as := [(0, person)]) (rest := [(0, 4), rf 43]) kx_63_59 kp_63_50 (Or.inl rfl) rfl (tk_7 hT) ki_46 kcl_46 rfl rfl (by decide) (m_46 (d := d) (person := person) hT hI7 (by omega)) (kF (fun v8 v8p => ?_))
  refine r_ast (k := 43) kx_63_62 (tk_43 hT) ⟨by decide, by decide⟩ hI7 ru_43 (fun M9 hI9 u9 => ?_)
  have hFm9 := hFm7.up u9 rfl
  refine s_aload_n kx_63_63 rfl ?_
  refine r_getR (k := 7) (f := 3) (k2 := 43) kx_63_64 kp_63_27 (tk_7 hT) kf_5_3 (by decide) (rq_7_3 hI9) ?_
  refine s_iconst (v := 5) kx_63_67 (by decide) ?_
  refine s_iload_n kx_63_68 rfl ?_
  refine s_iload_n kx_63_69 rfl ?_
  refine s_icmp_ne (t := 77) kx_63_70 (by decide) (fun hc10 => ?_) (fun hc10 => ?_)
  · refine s_iconst (v := 0) kx_63_77 (by decide) ?_
    refine r_ast (k := 43) kx_63_78 (tk_43 hT) ⟨by decide, by decide⟩ hI9 ru_43 (fun M11 hI11 u11 => ?_)
    have hFm11 := hFm9.up u11 rfl
    exact s_vret kx_63_79 kq_63 ⟨_, rfl, rfl, hI11, hFm11, trivial⟩
  · refine s_iconst (v := 1) kx_63_73 (by decide) ?_
    refine s_goto (t := 78) kx_63_74 (by decide) ?_
    refine r_ast (k := 43) kx_63_78 (tk_43 hT) ⟨by decide, by decide⟩ hI9 ru_43 (fun M12 hI12 u12 => ?_)
    have hFm12 := hFm9.up u12 rfl
    exact s_vret kx_63_79 kq_63 ⟨_, rfl, rfl, hI12, hFm12, trivial⟩
theorem kx_64_0 : x_code k_P 64 0 = some (.aload_n 0, 1) := by decide +kernel
theorem kx_64_1 : x_code k_P 64 1 = some (.getfield 21, 3) := by decide +kernel
theorem kp_64_21 : x_pool k_P 64 21 = (1, 5, 2) := by decide +kernel
theorem kx_64_4 : x_code k_P 64 4 = some (.bipush 24, 2) := by decide +kernel
theorem kx_64_6 : x_code k_P 64 6 = some (.iload_n 1, 1) := by decide +kernel
theorem kx_64_7 : x_code k_P 64 7 = some (.iadd, 1) := by decide +kernel
theorem kx_64_8 : x_code k_P 64 8 = some (.ldc 132, 2) := by decide +kernel
theorem kp_64_132 : x_pool k_P 64 132 = (7, 0, 99999) := by decide +kernel
theorem kx_64_10 : x_code k_P 64 10 = some (.aload_n 0, 1) := by decide +kernel
theorem kx_64_11 : x_code k_P 64 11 = some (.iload_n 1, 1) := by decide +kernel
theorem kx_64_12 : x_code k_P 64 12 = some (.invokevirtual 50, 3) := by decide +kernel
theorem kp_64_50 : x_pool k_P 64 50 = (2, 46, 1) := by decide +kernel
theorem kx_64_15 : x_code k_P 64 15 = some (.iload_n 2, 1) := by decide +kernel
theorem kx_64_16 : x_code k_P 64 16 = some (.iadd, 1) := by decide +kernel
theorem kx_64_17 : x_code k_P 64 17 = some (.invokestatic 133, 3) := by decide +kernel
theorem kp_64_133 : x_pool k_P 64 133 = (6, 299, 2) := by decide +kernel
theorem kcl_299 : x_maxL k_P 299 ≤ 60 ∧ 2 ≤ x_maxL k_P 299 := by decide +kernel
theorem kx_64_20 : x_code k_P 64 20 = some (.iastore, 1) := by decide +kernel
theorem kx_64_21 : x_code k_P 64 21 = some (.return_, 1) := by decide +kernel
theorem kq_64 : x_retk k_P 64 = 0 := by decide +kernel
def fS_64_m : List (Nat × Nat) := [(42, 99999)]
theorem m_64 {xs : Nat → Int} {Ln d : Nat} {T : List cK} {M : cM} (hT : TT T) (hI : Rng M) {person minutes : Int} (p0 : 0 ≤ person ∧ person ≤ 7) : cC k_P xs Ln (d + 1) 64 [rf 7, (0, person), (0, minutes)] (T, M) (qV T M fS_64_m (fun M1 => True)) := by
  show cP k_P xs Ln (d + 1) 64 0 [(0, rf 7), (1, (0, person)), (2, (0, minutes))] [] (T, M) _
  have hFm : Fr fS_64_m M M := Fr.refl
  refine s_aload_n kx_64_0 rfl ?_
  refine r_getR (k := 7) (f := 2) (k2 := 42) kx_64_1 kp_64_21 (tk_7 hT) kf_5_2 (by decide) (rq_7_2 hI) ?_
  refine s_bipush (v := 24) kx_64_4 (by decide) ?_
  refine s_iload_n kx_64_6 rfl ?_
  refine r_add kx_64_7 ⟨by omega, by omega⟩ ?_
  refine s_ldc kx_64_8 kp_64_132 ?_
  refine s_aload_n kx_64_10 rfl ?_
  refine s_iload_n kx_64_11 rfl ?_
  refine s_callV2 (k := 7) (s1 := 2) (s2 := 3) (as := [(0, person)]) (rest := [(0, 99999), (0, (24 + person)), rf 42]) kx_64_12 kp_64_50 (Or.inl rfl) rfl (tk_7 hT) ki_46 kcl_46 rfl rfl (by decide) (m_46 (d := d) (person := person) hT hI (by omega)) (kF (fun v1 v1p => ?_))
  refine s_iload_n kx_64_15 rfl ?_
  refine r_iaddR kx_64_16 (fun v2 v2a v2b => ?_)
  refine s_callS2 (s1 := 2) (s2 := 2) (as := [(0, v2), (0, 99999)]) (rest := [(0, (24 + person)), rf 42]) kx_64_17 kp_64_133 rfl kcl_299 rfl rfl (by decide) (m_299 (d := d) (a := 99999) (b := v2) hT hI) (kF (fun v3 v3p => ?_))
  refine r_ast (k := 42) kx_64_20 (tk_42 hT) ⟨by omega, by omega⟩ hI (ru_42 (fun _ => by omega) (fun _ => by omega)) (fun M4 hI4 u4 => ?_)
  have hFm4 := hFm.up u4 rfl
  exact s_vret kx_64_21 kq_64 ⟨_, rfl, rfl, hI4, hFm4, trivial⟩
theorem kx_65_0 : x_code k_P 65 0 = some (.aload_n 0, 1) := by decide +kernel
theorem kx_65_1 : x_code k_P 65 1 = some (.iload_n 1, 1) := by decide +kernel
theorem kx_65_2 : x_code k_P 65 2 = some (.iload_n 3, 1) := by decide +kernel
theorem kx_65_3 : x_code k_P 65 3 = some (.invokevirtual 136, 3) := by decide +kernel
theorem kp_65_136 : x_pool k_P 65 136 = (2, 64, 2) := by decide +kernel
theorem ki_64 : x_mci k_P 64 = 5 := by decide +kernel
theorem kcl_64 : x_maxL k_P 64 ≤ 60 ∧ 3 ≤ x_maxL k_P 64 := by decide +kernel
theorem kx_65_6 : x_code k_P 65 6 = some (.aload_n 0, 1) := by decide +kernel
theorem kx_65_7 : x_code k_P 65 7 = some (.getfield 21, 3) := by decide +kernel
theorem kp_65_21 : x_pool k_P 65 21 = (1, 5, 2) := by decide +kernel
theorem kx_65_10 : x_code k_P 65 10 = some (.iconst 0, 1) := by decide +kernel
theorem kx_65_11 : x_code k_P 65 11 = some (.iload_n 1, 1) := by decide +kernel
theorem kx_65_12 : x_code k_P 65 12 = some (.iadd, 1) := by decide +kernel
theorem kx_65_13 : x_code k_P 65 13 = some (.iload_n 2, 1) := by decide +kernel
theorem kx_65_14 : x_code k_P 65 14 = some (.iastore, 1) := by decide +kernel
theorem kx_65_15 : x_code k_P 65 15 = some (.return_, 1) := by decide +kernel
theorem kq_65 : x_retk k_P 65 = 0 := by decide +kernel
def fS_65_m : List (Nat × Nat) := [(42, 99999)]
theorem m_65 {xs : Nat → Int} {Ln d : Nat} {T : List cK} {M : cM} (hT : TT T) (hI : Rng M) {person room minutes : Int} (p0 : 0 ≤ person ∧ person ≤ 7) (p1 : 0 ≤ room ∧ room ≤ 7) : cC k_P xs Ln (d + 2) 65 [rf 7, (0, person), (0, room), (0, minutes)] (T, M) (qV T M fS_65_m (fun M1 => True)) := by
  show cP k_P xs Ln (d + 2) 65 0 [(0, rf 7), (1, (0, person)), (2, (0, room)), (3, (0, minutes))] [] (T, M) _
  have hFm : Fr fS_65_m M M := Fr.refl
  refine s_aload_n kx_65_0 rfl ?_
  refine s_iload_n kx_65_1 rfl ?_
  refine s_iload_n kx_65_2 rfl ?_
  refine s_callV2 (k := 7) (s1 := 3) (s2 := 0) (as := [(0, minutes), (0, person)]) (rest := []) kx_65_3 kp_65_136 (Or.inl rfl) rfl (tk_7 hT) ki_64 kcl_64 rfl rfl (by decide) (m_64 (d := d) (person := person) (minutes := minutes) hT hI (by omega)) (kV (fun M2 hI2 fr2 v1p => ?_))
  have hFm2 := hFm.call fr2 rfl
  refine s_aload_n kx_65_6 rfl ?_
  refine r_getR (k := 7) (f := 2) (k2 := 42) kx_65_7 kp_65_21 (tk_7 hT) kf_5_2 (by decide) (rq_7_2 hI2) ?_
  refine s_iconst (v := 0) kx_65_10 (by decide) ?_
  refine s_iload_n kx_65_11 rfl ?_
  refine r_add kx_65_12 ⟨by omega, by omega⟩ ?_
  refine s_iload_n kx_65_13 rfl ?_
  refine r_ast (k := 42) kx_65_14 (tk_42 hT) ⟨by omega, by omega⟩ hI2 (ru_42 (fun _ => by omega) (fun _ => by omega)) (fun M3 hI3 u3 => ?_)
  have hFm3 := hFm2.up u3 rfl
  exact s_vret kx_65_15 kq_65 ⟨_, rfl, rfl, hI3, hFm3, trivial⟩
theorem kx_66_0 : x_code k_P 66 0 = some (.aload_n 0, 1) := by decide +kernel
theorem kx_66_1 : x_code k_P 66 1 = some (.getfield 21, 3) := by decide +kernel
theorem kp_66_21 : x_pool k_P 66 21 = (1, 5, 2) := by decide +kernel
theorem kx_66_4 : x_code k_P 66 4 = some (.bipush 8, 2) := by decide +kernel
theorem kx_66_6 : x_code k_P 66 6 = some (.iload_n 3, 1) := by decide +kernel
theorem kx_66_7 : x_code k_P 66 7 = some (.iadd, 1) := by decide +kernel
theorem kx_66_8 : x_code k_P 66 8 = some (.iload_n 2, 1) := by decide +kernel
theorem kx_66_9 : x_code k_P 66 9 = some (.iastore, 1) := by decide +kernel
theorem kx_66_10 : x_code k_P 66 10 = some (.aload_n 0, 1) := by decide +kernel
theorem kx_66_11 : x_code k_P 66 11 = some (.invokevirtual 140, 3) := by decide +kernel
theorem kp_66_140 : x_pool k_P 66 140 = (2, 48, 0) := by decide +kernel
theorem kx_66_14 : x_code k_P 66 14 = some (.istore 5, 2) := by decide +kernel
theorem km_66_5 : 5 < x_maxL k_P 66 := by decide +kernel
theorem kx_66_16 : x_code k_P 66 16 = some (.iload 5, 2) := by decide +kernel
theorem kx_66_18 : x_code k_P 66 18 = some (.bipush 40, 2) := by decide +kernel
theorem kx_66_20 : x_code k_P 66 20 = some (.if_icmp .lt 24, 3) := by decide +kernel
theorem kx_66_23 : x_code k_P 66 23 = some (.aload_n 0, 1) := by decide +kernel
theorem kx_66_24 : x_code k_P 66 24 = some (.getfield 21, 3) := by decide +kernel
theorem kx_66_27 : x_code k_P 66 27 = some (.bipush 42, 2) := by decide +kernel
theorem kx_66_29 : x_code k_P 66 29 = some (.aload_n 0, 1) := by decide +kernel
theorem kx_66_30 : x_code k_P 66 30 = some (.getfield 21, 3) := by decide +kernel
theorem kx_66_33 : x_code k_P 66 33 = some (.bipush 41, 2) := by decide +kernel
theorem kx_66_35 : x_code k_P 66 35 = some (.bipush 39, 2) := by decide +kernel
theorem kx_66_37 : x_code k_P 66 37 = some (.invokestatic 144, 3) := by decide +kernel
theorem kp_66_144 : x_pool k_P 66 144 = (10, 0, 0) := by decide +kernel
theorem kx_66_40 : x_code k_P 66 40 = some (.bipush 39, 2) := by decide +kernel
theorem kx_66_42 : x_code k_P 66 42 = some (.istore 5, 2) := by decide +kernel
theorem kx_66_44 : x_code k_P 66 44 = some (.aload_n 0, 1) := by decide +kernel
theorem kx_66_45 : x_code k_P 66 45 = some (.getfield 21, 3) := by decide +kernel
theorem kx_66_48 : x_code k_P 66 48 = some (.bipush 41, 2) := by decide +kernel
theorem kx_66_50 : x_code k_P 66 50 = some (.iload 5, 2) := by decide +kernel
theorem kx_66_52 : x_code k_P 66 52 = some (.iadd, 1) := by decide +kernel
theorem kx_66_53 : x_code k_P 66 53 = some (.iload 4, 2) := by decide +kernel
theorem kx_66_55 : x_code k_P 66 55 = some (.bipush 8, 2) := by decide +kernel
theorem kx_66_57 : x_code k_P 66 57 = some (.imul, 1) := by decide +kernel
theorem kx_66_58 : x_code k_P 66 58 = some (.iload_n 2, 1) := by decide +kernel
theorem kx_66_59 : x_code k_P 66 59 = some (.iadd, 1) := by decide +kernel
theorem kx_66_60 : x_code k_P 66 60 = some (.bipush 8, 2) := by decide +kernel
theorem kx_66_62 : x_code k_P 66 62 = some (.imul, 1) := by decide +kernel
theorem kx_66_63 : x_code k_P 66 63 = some (.iload_n 1, 1) := by decide +kernel
theorem kx_66_64 : x_code k_P 66 64 = some (.iadd, 1) := by decide +kernel
theorem kx_66_65 : x_code k_P 66 65 = some (.bipush 8, 2) := by decide +kernel
theorem kx_66_67 : x_code k_P 66 67 = some (.imul, 1) := by decide +kernel
theorem kx_66_68 : x_code k_P 66 68 = some (.iload_n 3, 1) := by decide +kernel
theorem kx_66_69 : x_code k_P 66 69 = some (.iadd, 1) := by decide +kernel
theorem kx_66_70 : x_code k_P 66 70 = some (.iastore, 1) := by decide +kernel
theorem kx_66_71 : x_code k_P 66 71 = some (.aload_n 0, 1) := by decide +kernel
theorem kx_66_72 : x_code k_P 66 72 = some (.getfield 21, 3) := by decide +kernel
theorem kx_66_75 : x_code k_P 66 75 = some (.bipush 40, 2) := by decide +kernel
theorem kx_66_77 : x_code k_P 66 77 = some (.iload 5, 2) := by decide +kernel
theorem kx_66_79 : x_code k_P 66 79 = some (.iconst 1, 1) := by decide +kernel
theorem kx_66_80 : x_code k_P 66 80 = some (.iadd, 1) := by decide +kernel
theorem kx_66_81 : x_code k_P 66 81 = some (.iastore, 1) := by decide +kernel
theorem kx_66_82 : x_code k_P 66 82 = some (.return_, 1) := by decide +kernel
theorem kq_66 : x_retk k_P 66 = 0 := by decide +kernel
def fS_66_j20 : List (Nat × Nat) := [(42, 99999)]
def fS_66_m : List (Nat × Nat) := [(42, 99999)]
theorem m_66 {xs : Nat → Int} {Ln d : Nat} {T : List cK} {M : cM} (hT : TT T) (hI : Rng M) {person room chair minutes : Int} (p0 : 0 ≤ person ∧ person ≤ 7) (p1 : 0 ≤ room ∧ room ≤ 7) (p2 : 0 ≤ chair ∧ chair ≤ 7) : cC k_P xs Ln (d + 1) 66 [rf 7, (0, person), (0, room), (0, chair), (0, minutes)] (T, M) (qV T M fS_66_m (fun M1 => True)) := by
  show cP k_P xs Ln (d + 1) 66 0 [(0, rf 7), (1, (0, person)), (2, (0, room)), (3, (0, chair)), (4, (0, minutes))] [] (T, M) _
  have hFm : Fr fS_66_m M M := Fr.refl
  refine s_aload_n kx_66_0 rfl ?_
  refine r_getR (k := 7) (f := 2) (k2 := 42) kx_66_1 kp_66_21 (tk_7 hT) kf_5_2 (by decide) (rq_7_2 hI) ?_
  refine s_bipush (v := 8) kx_66_4 (by decide) ?_
  refine s_iload_n kx_66_6 rfl ?_
  refine r_add kx_66_7 ⟨by omega, by omega⟩ ?_
  refine s_iload_n kx_66_8 rfl ?_
  refine r_ast (k := 42) kx_66_9 (tk_42 hT) ⟨by omega, by omega⟩ hI (ru_42 (fun _ => by omega) (fun _ => by omega)) (fun M1 hI1 u1 => ?_)
  have hFm1 := hFm.up u1 rfl
  refine s_aload_n kx_66_10 rfl ?_
  refine s_callV2 (k := 7) (s1 := 1) (s2 := 0) (as := []) (rest := []) kx_66_11 kp_66_140 (Or.inl rfl) rfl (tk_7 hT) ki_48 kcl_48 rfl rfl (by decide) (m_48 (d := d) hT hI1) (kF (fun v2 v2p => ?_))
  refine s_istore kx_66_14 km_66_5 rfl ?_
  refine s_iload kx_66_16 rfl ?_
  refine s_bipush (v := 40) kx_66_18 (by decide) ?_
  have jn10 : ∀ (y9 : Int), ∀ M11 : cM, Rng M11 → Fr fS_66_j20 M1 M11 → Fr fS_66_m M M11 → (0 ≤ y9) → (y9 ≤ 39) → cP k_P xs Ln (d + 1) 66 44 [(0, rf 7), (1, (0, person)), (2, (0, room)), (3, (0, chair)), (4, (0, minutes)), (5, (0, y9))] [] (T, M11) (qV T M fS_66_m (fun M1 => True)) := by
    intro y9 M11 hI11 fj11 hFm11 a12 a13
    refine s_aload_n kx_66_44 rfl ?_
    refine r_getR (k := 7) (f := 2) (k2 := 42) kx_66_45 kp_66_21 (tk_7 hT) kf_5_2 (by decide) (rq_7_2 hI11) ?_
    refine s_bipush (v := 41) kx_66_48 (by decide) ?_
    refine s_iload kx_66_50 rfl ?_
    refine r_add kx_66_52 ⟨by omega, by omega⟩ ?_
    refine s_iload kx_66_53 rfl ?_
    refine s_bipush (v := 8) kx_66_55 (by decide) ?_
    refine r_imulR kx_66_57 (fun v14 v14a v14b => ?_)
    refine s_iload_n kx_66_58 rfl ?_
    refine r_iaddR kx_66_59 (fun v15 v15a v15b => ?_)
    refine s_bipush (v := 8) kx_66_60 (by decide) ?_
    refine r_imulR kx_66_62 (fun v16 v16a v16b => ?_)
    refine s_iload_n kx_66_63 rfl ?_
    refine r_iaddR kx_66_64 (fun v17 v17a v17b => ?_)
    refine s_bipush (v := 8) kx_66_65 (by decide) ?_
    refine r_imulR kx_66_67 (fun v18 v18a v18b => ?_)
    refine s_iload_n kx_66_68 rfl ?_
    refine r_iaddR kx_66_69 (fun v19 v19a v19b => ?_)
    refine r_ast (k := 42) kx_66_70 (tk_42 hT) ⟨by omega, by omega⟩ hI11 (ru_42 (fun _ => by omega) (fun _ => by omega)) (fun M20 hI20 u20 => ?_)
    have hFm20 := hFm11.up u20 rfl
    refine s_aload_n kx_66_71 rfl ?_
    refine r_getR (k := 7) (f := 2) (k2 := 42) kx_66_72 kp_66_21 (tk_7 hT) kf_5_2 (by decide) (rq_7_2 hI20) ?_
    refine s_bipush (v := 40) kx_66_75 (by decide) ?_
    refine s_iload kx_66_77 rfl ?_
    refine s_iconst (v := 1) kx_66_79 (by decide) ?_
    refine r_add kx_66_80 ⟨by omega, by omega⟩ ?_
    refine r_ast (k := 42) kx_66_81 (tk_42 hT) ⟨by decide, by decide⟩ hI20 (ru_42 (fun _ => by omega) (fun _ => by omega)) (fun M21 hI21 u21 => ?_)
    have hFm21 := hFm20.up u21 rfl
    exact s_vret kx_66_82 kq_66 ⟨_, rfl, rfl, hI21, hFm21, trivial⟩
  refine s_icmp_lt (t := 44) kx_66_20 (by decide) (fun hc3 => ?_) (fun hc3 => ?_)
  · have hJ4 : Fr fS_66_j20 M1 M1 := Fr.refl
    exact cP.wk (lS1 rfl (lS1 rfl (lS1 rfl (lS1 rfl (lS1 rfl (lS1 rfl lS0)))))) (jn10 v2 M1 hI1 hJ4 hFm1 (by omega) (by omega))
  · have hJ5 : Fr fS_66_j20 M1 M1 := Fr.refl
    refine s_aload_n kx_66_23 rfl ?_
    refine r_getR (k := 7) (f := 2) (k2 := 42) kx_66_24 kp_66_21 (tk_7 hT) kf_5_2 (by decide) (rq_7_2 hI1) ?_
    refine s_bipush (v := 42) kx_66_27 (by decide) ?_
    refine s_aload_n kx_66_29 rfl ?_
    refine r_getR (k := 7) (f := 2) (k2 := 42) kx_66_30 kp_66_21 (tk_7 hT) kf_5_2 (by decide) (rq_7_2 hI1) ?_
    refine s_bipush (v := 41) kx_66_33 (by decide) ?_
    refine s_bipush (v := 39) kx_66_35 (by decide) ?_
    refine r_cpy (ks := 42) (kd := 42) kx_66_37 kp_66_144 (tk_42 hT) (tk_42 hT) ⟨by omega, by omega, by omega, by omega, by omega⟩ (by decide) hI1 (fun q a b => ru_42 (fun h => absurd h (by omega)) (fun h => absurd h (by omega))) (fun M6 hI6 ca7 cb8 => ?_)
    have fr6 : Fr [(42, 99999)] M1 M6 := Fr.cell (fun x y h => cb8 x y (fun g => h g.1))
    have hFm6 := hFm1.call fr6 rfl
    have hFj206 := hJ5.call fr6 rfl
    refine s_bipush (v := 39) kx_66_40 (by decide) ?_
    refine s_istore kx_66_42 km_66_5 rfl ?_
    exact cP.wk (lS1 rfl (lS1 rfl (lS1 rfl (lS1 rfl (lS1 rfl (lS1 rfl lS0)))))) (jn10 39 M6 hI6 hFj206 hFm6 (by omega) (by omega))
theorem kx_68_0 : x_code k_P 68 0 = some (.aload_n 0, 1) := by decide +kernel
theorem kx_68_1 : x_code k_P 68 1 = some (.getfield 21, 3) := by decide +kernel
theorem kp_68_21 : x_pool k_P 68 21 = (1, 5, 2) := by decide +kernel
theorem kx_68_4 : x_code k_P 68 4 = some (.bipush 16, 2) := by decide +kernel
theorem kx_68_6 : x_code k_P 68 6 = some (.iload_n 1, 1) := by decide +kernel
theorem kx_68_7 : x_code k_P 68 7 = some (.iadd, 1) := by decide +kernel
theorem kx_68_8 : x_code k_P 68 8 = some (.iconst 1, 1) := by decide +kernel
theorem kx_68_9 : x_code k_P 68 9 = some (.iastore, 1) := by decide +kernel
theorem kx_68_10 : x_code k_P 68 10 = some (.return_, 1) := by decide +kernel
theorem kq_68 : x_retk k_P 68 = 0 := by decide +kernel
def fS_68_m : List (Nat × Nat) := [(42, 99999)]
theorem m_68 {xs : Nat → Int} {Ln d : Nat} {T : List cK} {M : cM} (hT : TT T) (hI : Rng M) {chair : Int} (p0 : 0 ≤ chair ∧ chair ≤ 7) : cC k_P xs Ln (d + 0) 68 [rf 7, (0, chair)] (T, M) (qV T M fS_68_m (fun M1 => True)) := by
  show cP k_P xs Ln (d + 0) 68 0 [(0, rf 7), (1, (0, chair))] [] (T, M) _
  have hFm : Fr fS_68_m M M := Fr.refl
  refine s_aload_n kx_68_0 rfl ?_
  refine r_getR (k := 7) (f := 2) (k2 := 42) kx_68_1 kp_68_21 (tk_7 hT) kf_5_2 (by decide) (rq_7_2 hI) ?_
  refine s_bipush (v := 16) kx_68_4 (by decide) ?_
  refine s_iload_n kx_68_6 rfl ?_
  refine r_add kx_68_7 ⟨by omega, by omega⟩ ?_
  refine s_iconst (v := 1) kx_68_8 (by decide) ?_
  refine r_ast (k := 42) kx_68_9 (tk_42 hT) ⟨by omega, by omega⟩ hI (ru_42 (fun _ => by omega) (fun _ => by omega)) (fun M1 hI1 u1 => ?_)
  have hFm1 := hFm.up u1 rfl
  exact s_vret kx_68_10 kq_68 ⟨_, rfl, rfl, hI1, hFm1, trivial⟩
theorem kx_71_0 : x_code k_P 71 0 = some (.aload_n 0, 1) := by decide +kernel
theorem kx_71_1 : x_code k_P 71 1 = some (.getfield 21, 3) := by decide +kernel
theorem kp_71_21 : x_pool k_P 71 21 = (1, 5, 2) := by decide +kernel
theorem kx_71_4 : x_code k_P 71 4 = some (.bipush 16, 2) := by decide +kernel
theorem kx_71_6 : x_code k_P 71 6 = some (.iload_n 2, 1) := by decide +kernel
theorem kx_71_7 : x_code k_P 71 7 = some (.iadd, 1) := by decide +kernel
theorem kx_71_8 : x_code k_P 71 8 = some (.iconst 0, 1) := by decide +kernel
theorem kx_71_9 : x_code k_P 71 9 = some (.iastore, 1) := by decide +kernel
theorem kx_71_10 : x_code k_P 71 10 = some (.aload_n 0, 1) := by decide +kernel
theorem kx_71_11 : x_code k_P 71 11 = some (.iload_n 1, 1) := by decide +kernel
theorem kx_71_12 : x_code k_P 71 12 = some (.bipush 30, 2) := by decide +kernel
theorem kx_71_14 : x_code k_P 71 14 = some (.invokevirtual 136, 3) := by decide +kernel
theorem kp_71_136 : x_pool k_P 71 136 = (2, 64, 2) := by decide +kernel
theorem kx_71_17 : x_code k_P 71 17 = some (.return_, 1) := by decide +kernel
theorem kq_71 : x_retk k_P 71 = 0 := by decide +kernel
def fS_71_m : List (Nat × Nat) := [(42, 99999)]
theorem m_71 {xs : Nat → Int} {Ln d : Nat} {T : List cK} {M : cM} (hT : TT T) (hI : Rng M) {person chair : Int} (p0 : 0 ≤ person ∧ person ≤ 7) (p1 : 0 ≤ chair ∧ chair ≤ 7) : cC k_P xs Ln (d + 2) 71 [rf 7, (0, person), (0, chair)] (T, M) (qV T M fS_71_m (fun M1 => True)) := by
  show cP k_P xs Ln (d + 2) 71 0 [(0, rf 7), (1, (0, person)), (2, (0, chair))] [] (T, M) _
  have hFm : Fr fS_71_m M M := Fr.refl
  refine s_aload_n kx_71_0 rfl ?_
  refine r_getR (k := 7) (f := 2) (k2 := 42) kx_71_1 kp_71_21 (tk_7 hT) kf_5_2 (by decide) (rq_7_2 hI) ?_
  refine s_bipush (v := 16) kx_71_4 (by decide) ?_
  refine s_iload_n kx_71_6 rfl ?_
  refine r_add kx_71_7 ⟨by omega, by omega⟩ ?_
  refine s_iconst (v := 0) kx_71_8 (by decide) ?_
  refine r_ast (k := 42) kx_71_9 (tk_42 hT) ⟨by omega, by omega⟩ hI (ru_42 (fun _ => by omega) (fun _ => by omega)) (fun M1 hI1 u1 => ?_)
  have hFm1 := hFm.up u1 rfl
  refine s_aload_n kx_71_10 rfl ?_
  refine s_iload_n kx_71_11 rfl ?_
  refine s_bipush (v := 30) kx_71_12 (by decide) ?_
  refine s_callV2 (k := 7) (s1 := 3) (s2 := 0) (as := [(0, 30), (0, person)]) (rest := []) kx_71_14 kp_71_136 (Or.inl rfl) rfl (tk_7 hT) ki_64 kcl_64 rfl rfl (by decide) (m_64 (d := d) (person := person) (minutes := 30) hT hI1 (by omega)) (kV (fun M3 hI3 fr3 v2p => ?_))
  have hFm3 := hFm1.call fr3 rfl
  exact s_vret kx_71_17 kq_71 ⟨_, rfl, rfl, hI3, hFm3, trivial⟩
