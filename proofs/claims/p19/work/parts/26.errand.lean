theorem kx_5_0 : x_code k_P 5 0 = some (.iload_n 3, 1) := by decide +kernel
theorem kx_5_1 : x_code k_P 5 1 = some (.ifCond .ne 11, 3) := by decide +kernel
theorem kx_5_12 : x_code k_P 5 12 = some (.aload_n 1, 1) := by decide +kernel
theorem kx_5_13 : x_code k_P 5 13 = some (.getfield 43, 3) := by decide +kernel
theorem kp_5_43 : x_pool k_P 5 43 = (1, 8, 0) := by decide +kernel
theorem kx_5_16 : x_code k_P 5 16 = some (.iconst 2, 1) := by decide +kernel
theorem kx_5_17 : x_code k_P 5 17 = some (.iload_n 3, 1) := by decide +kernel
theorem kx_5_18 : x_code k_P 5 18 = some (.imul, 1) := by decide +kernel
theorem kx_5_19 : x_code k_P 5 19 = some (.iconst 2, 1) := by decide +kernel
theorem kx_5_20 : x_code k_P 5 20 = some (.isub, 1) := by decide +kernel
theorem kx_5_21 : x_code k_P 5 21 = some (.iaload, 1) := by decide +kernel
theorem kx_5_22 : x_code k_P 5 22 = some (.ireturn, 1) := by decide +kernel
theorem kq_5 : x_retk k_P 5 = 1 := by decide +kernel
theorem kx_5_4 : x_code k_P 5 4 = some (.aload_n 0, 1) := by decide +kernel
theorem kx_5_5 : x_code k_P 5 5 = some (.iload_n 2, 1) := by decide +kernel
theorem kx_5_6 : x_code k_P 5 6 = some (.invokevirtual 39, 3) := by decide +kernel
theorem kp_5_39 : x_pool k_P 5 39 = (2, 43, 1) := by decide +kernel
theorem kx_5_9 : x_code k_P 5 9 = some (.goto 13, 3) := by decide +kernel
theorem m_5 {xs : Nat → Int} {Ln d : Nat} {T : List cK} {M : cM} (hT : TT T) (hI : Rng M) {person k : Int} (p0 : 0 ≤ person ∧ person ≤ 7) (p1 : 0 ≤ k ∧ k ≤ 11) : cC k_P xs Ln (d + 1) 5 [rf 7, rf 1, (0, person), (0, k)] (T, M) (qF T M 0 (fun v => True)) := by
  show cP k_P xs Ln (d + 1) 5 0 [(0, rf 7), (1, rf 1), (2, (0, person)), (3, (0, k))] [] (T, M) _
  refine s_iload_n kx_5_0 rfl ?_
  refine s_if_ne (t := 12) kx_5_1 (by decide) (fun hc1 => ?_) (fun hc1 => ?_)
  · refine s_aload_n kx_5_12 rfl ?_
    refine r_getR (k := 1) (f := 0) (k2 := 2) kx_5_13 kp_5_43 (tk_1 hT) kf_8_0 (by decide) (rq_1_0 hI) ?_
    refine s_iconst (v := 2) kx_5_16 (by decide) ?_
    refine s_iload_n kx_5_17 rfl ?_
    refine r_mul kx_5_18 ⟨by omega, by omega⟩ ?_
    refine s_iconst (v := 2) kx_5_19 (by decide) ?_
    refine r_sub kx_5_20 ⟨by omega, by omega⟩ ?_
    refine r_ald (k := 2) kx_5_21 (tk_2 hT) ⟨by omega, by omega⟩ (rg_2 hI) (fun v2 v2e v2a v2b => ?_)
    exact s_iret kx_5_22 (Or.inl kq_5) ⟨_, rfl, rfl, trivial⟩
  · refine s_aload_n kx_5_4 rfl ?_
    refine s_iload_n kx_5_5 rfl ?_
    refine s_callV2 (k := 7) (s1 := 2) (s2 := 0) (as := [(0, person)]) (rest := []) kx_5_6 kp_5_39 (Or.inl rfl) rfl (tk_7 hT) ki_43 kcl_43 rfl rfl (by decide) (m_43 (d := d) (person := person) hT hI (by omega)) (kF (fun v3 v3p => ?_))
    refine s_goto (t := 22) kx_5_9 (by decide) ?_
    exact s_iret kx_5_22 (Or.inl kq_5) ⟨_, rfl, rfl, trivial⟩
theorem kx_8_0 : x_code k_P 8 0 = some (.aload_n 2, 1) := by decide +kernel
theorem kx_8_1 : x_code k_P 8 1 = some (.getfield 43, 3) := by decide +kernel
theorem kp_8_43 : x_pool k_P 8 43 = (1, 8, 0) := by decide +kernel
theorem kx_8_4 : x_code k_P 8 4 = some (.iconst 2, 1) := by decide +kernel
theorem kx_8_5 : x_code k_P 8 5 = some (.iload 4, 2) := by decide +kernel
theorem kx_8_7 : x_code k_P 8 7 = some (.imul, 1) := by decide +kernel
theorem kx_8_8 : x_code k_P 8 8 = some (.iconst 1, 1) := by decide +kernel
theorem kx_8_9 : x_code k_P 8 9 = some (.iadd, 1) := by decide +kernel
theorem kx_8_10 : x_code k_P 8 10 = some (.iaload, 1) := by decide +kernel
theorem kx_8_11 : x_code k_P 8 11 = some (.iconst 1, 1) := by decide +kernel
theorem kx_8_12 : x_code k_P 8 12 = some (.if_icmp .ne 7, 3) := by decide +kernel
theorem kx_8_19 : x_code k_P 8 19 = some (.iconst 0, 1) := by decide +kernel
theorem kx_8_15 : x_code k_P 8 15 = some (.iconst 1, 1) := by decide +kernel
theorem kx_8_16 : x_code k_P 8 16 = some (.goto 4, 3) := by decide +kernel
theorem kx_8_20 : x_code k_P 8 20 = some (.istore 7, 2) := by decide +kernel
theorem km_8_7 : 7 < x_maxL k_P 8 := by decide +kernel
theorem kx_8_22 : x_code k_P 8 22 = some (.iload 7, 2) := by decide +kernel
theorem kx_8_24 : x_code k_P 8 24 = some (.ifCond .eq 25, 3) := by decide +kernel
theorem kx_8_49 : x_code k_P 8 49 = some (.ldc 74, 2) := by decide +kernel
theorem kp_8_74 : x_pool k_P 8 74 = (7, 0, 1000000000) := by decide +kernel
theorem kx_8_51 : x_code k_P 8 51 = some (.iload 6, 2) := by decide +kernel
theorem kx_8_53 : x_code k_P 8 53 = some (.aload_n 0, 1) := by decide +kernel
theorem kx_8_54 : x_code k_P 8 54 = some (.getfield 9, 3) := by decide +kernel
theorem kp_8_9 : x_pool k_P 8 9 = (1, 0, 0) := by decide +kernel
theorem kf_0_0 : (x_cls k_P 0)[0]? = some 12 := by decide +kernel
theorem kx_8_57 : x_code k_P 8 57 = some (.iload 4, 2) := by decide +kernel
theorem kx_8_59 : x_code k_P 8 59 = some (.iconst 1, 1) := by decide +kernel
theorem kx_8_60 : x_code k_P 8 60 = some (.iadd, 1) := by decide +kernel
theorem kx_8_61 : x_code k_P 8 61 = some (.bipush 8, 2) := by decide +kernel
theorem kx_8_63 : x_code k_P 8 63 = some (.imul, 1) := by decide +kernel
theorem kx_8_64 : x_code k_P 8 64 = some (.iload 5, 2) := by decide +kernel
theorem kx_8_66 : x_code k_P 8 66 = some (.iadd, 1) := by decide +kernel
theorem kx_8_67 : x_code k_P 8 67 = some (.iaload, 1) := by decide +kernel
theorem kx_8_68 : x_code k_P 8 68 = some (.iadd, 1) := by decide +kernel
theorem kx_8_69 : x_code k_P 8 69 = some (.invokestatic 66, 3) := by decide +kernel
theorem kp_8_66 : x_pool k_P 8 66 = (6, 299, 2) := by decide +kernel
theorem kx_8_72 : x_code k_P 8 72 = some (.ireturn, 1) := by decide +kernel
theorem kq_8 : x_retk k_P 8 = 1 := by decide +kernel
theorem kx_8_27 : x_code k_P 8 27 = some (.aload_n 1, 1) := by decide +kernel
theorem kx_8_28 : x_code k_P 8 28 = some (.iload_n 3, 1) := by decide +kernel
theorem kx_8_29 : x_code k_P 8 29 = some (.aload_n 2, 1) := by decide +kernel
theorem kx_8_30 : x_code k_P 8 30 = some (.getfield 43, 3) := by decide +kernel
theorem kx_8_33 : x_code k_P 8 33 = some (.iconst 2, 1) := by decide +kernel
theorem kx_8_34 : x_code k_P 8 34 = some (.iload 4, 2) := by decide +kernel
theorem kx_8_36 : x_code k_P 8 36 = some (.imul, 1) := by decide +kernel
theorem kx_8_37 : x_code k_P 8 37 = some (.iaload, 1) := by decide +kernel
theorem kx_8_38 : x_code k_P 8 38 = some (.iload 5, 2) := by decide +kernel
theorem kx_8_40 : x_code k_P 8 40 = some (.invokevirtual 98, 3) := by decide +kernel
theorem kp_8_98 : x_pool k_P 8 98 = (2, 59, 3) := by decide +kernel
theorem kx_8_43 : x_code k_P 8 43 = some (.ifCond .ne 6, 3) := by decide +kernel
theorem kx_8_46 : x_code k_P 8 46 = some (.ldc 74, 2) := by decide +kernel
theorem kx_8_48 : x_code k_P 8 48 = some (.ireturn, 1) := by decide +kernel
theorem m_8 {xs : Nat → Int} {Ln d : Nat} {T : List cK} {M : cM} (hT : TT T) (hI : Rng M) {t : Nat} (ht : t = 8 ∨ t = 25) (h70 : M 7 0 = ((t : Nat) : Int)) {person k chairRoom minutes : Int} (p0 : 0 ≤ person ∧ person ≤ 7) (p1 : 0 ≤ k ∧ k ≤ 11) (p2 : 0 ≤ chairRoom ∧ chairRoom ≤ 7) : cC k_P xs Ln (d + 2) 8 [rf 51, rf 7, rf 1, (0, person), (0, k), (0, chairRoom), (0, minutes)] (T, M) (qF T M 0 (fun v => True)) := by
  show cP k_P xs Ln (d + 2) 8 0 [(0, rf 51), (1, rf 7), (2, rf 1), (3, (0, person)), (4, (0, k)), (5, (0, chairRoom)), (6, (0, minutes))] [] (T, M) _
  refine s_aload_n kx_8_0 rfl ?_
  refine r_getR (k := 1) (f := 0) (k2 := 2) kx_8_1 kp_8_43 (tk_1 hT) kf_8_0 (by decide) (rq_1_0 hI) ?_
  refine s_iconst (v := 2) kx_8_4 (by decide) ?_
  refine s_iload kx_8_5 rfl ?_
  refine r_mul kx_8_7 ⟨by omega, by omega⟩ ?_
  refine s_iconst (v := 1) kx_8_8 (by decide) ?_
  refine r_add kx_8_9 ⟨by omega, by omega⟩ ?_
  refine r_ald (k := 2) kx_8_10 (tk_2 hT) ⟨by omega, by omega⟩ (rg_2 hI) (fun v1 v1e v1a v1b => ?_)
  refine s_iconst (v := 1) kx_8_11 (by decide) ?_
  have jn6 : ∀ (y5 : Int), (0 ≤ y5) → (y5 ≤ 1) → cP k_P xs Ln (d + 2) 8 20 [(0, rf 51), (1, rf 7), (2, rf 1), (3, (0, person)), (4, (0, k)), (5, (0, chairRoom)), (6, (0, minutes))] [(0, y5)] (T, M) (qF T M 0 (fun v => True)) := by
    intro y5 a7 a8
    refine s_istore kx_8_20 km_8_7 rfl ?_
    refine s_iload kx_8_22 rfl ?_
    refine s_if_eq (t := 49) kx_8_24 (by decide) (fun hc9 => ?_) (fun hc9 => ?_)
    · refine s_ldc kx_8_49 kp_8_74 ?_
      refine s_iload kx_8_51 rfl ?_
      refine s_aload_n kx_8_53 rfl ?_
      refine r_getR (k := 51) (f := 0) (k2 := 52) kx_8_54 kp_8_9 (tk_51 hT) kf_0_0 (by decide) (rq_51_0 hI) ?_
      refine s_iload kx_8_57 rfl ?_
      refine s_iconst (v := 1) kx_8_59 (by decide) ?_
      refine r_add kx_8_60 ⟨by omega, by omega⟩ ?_
      refine s_bipush (v := 8) kx_8_61 (by decide) ?_
      refine r_mul kx_8_63 ⟨by omega, by omega⟩ ?_
      refine s_iload kx_8_64 rfl ?_
      refine r_add kx_8_66 ⟨by omega, by omega⟩ ?_
      refine r_aldU (k := 52) kx_8_67 (tk_52 hT) ⟨by omega, by omega⟩ (fun v10 v10e => ?_)
      refine r_iaddR kx_8_68 (fun v11 v11a v11b => ?_)
      refine s_callS2 (s1 := 2) (s2 := 0) (as := [(0, v11), (0, 1000000000)]) (rest := []) kx_8_69 kp_8_66 rfl kcl_299 rfl rfl (by decide) (m_299 (d := d + 1) (a := 1000000000) (b := v11) hT hI) (kF (fun v12 v12p => ?_))
      exact s_iret kx_8_72 (Or.inl kq_8) ⟨_, rfl, rfl, trivial⟩
    · refine s_aload_n kx_8_27 rfl ?_
      refine s_iload_n kx_8_28 rfl ?_
      refine s_aload_n kx_8_29 rfl ?_
      refine r_getR (k := 1) (f := 0) (k2 := 2) kx_8_30 kp_8_43 (tk_1 hT) kf_8_0 (by decide) (rq_1_0 hI) ?_
      refine s_iconst (v := 2) kx_8_33 (by decide) ?_
      refine s_iload kx_8_34 rfl ?_
      refine r_mul kx_8_36 ⟨by omega, by omega⟩ ?_
      refine r_ald (k := 2) kx_8_37 (tk_2 hT) ⟨by omega, by omega⟩ (rg_2 hI) (fun v13 v13e v13a v13b => ?_)
      refine s_iload kx_8_38 rfl ?_
      refine s_callV2 (k := 7) (s1 := 4) (s2 := 0) (as := [(0, chairRoom), (0, v13), (0, person)]) (rest := []) kx_8_40 kp_8_98 (Or.inl rfl) rfl (tk_7 hT) ki_59 kcl_59 rfl rfl (by decide) (m_59 (d := d) (person := person) (room := v13) (own := chairRoom) hT hI ht h70 (by omega)) (kF (fun v14 v14p => ?_))
      refine s_if_ne (t := 49) kx_8_43 (by decide) (fun hc15 => ?_) (fun hc15 => ?_)
      · refine s_ldc kx_8_49 kp_8_74 ?_
        refine s_iload kx_8_51 rfl ?_
        refine s_aload_n kx_8_53 rfl ?_
        refine r_getR (k := 51) (f := 0) (k2 := 52) kx_8_54 kp_8_9 (tk_51 hT) kf_0_0 (by decide) (rq_51_0 hI) ?_
        refine s_iload kx_8_57 rfl ?_
        refine s_iconst (v := 1) kx_8_59 (by decide) ?_
        refine r_add kx_8_60 ⟨by omega, by omega⟩ ?_
        refine s_bipush (v := 8) kx_8_61 (by decide) ?_
        refine r_mul kx_8_63 ⟨by omega, by omega⟩ ?_
        refine s_iload kx_8_64 rfl ?_
        refine r_add kx_8_66 ⟨by omega, by omega⟩ ?_
        refine r_aldU (k := 52) kx_8_67 (tk_52 hT) ⟨by omega, by omega⟩ (fun v16 v16e => ?_)
        refine r_iaddR kx_8_68 (fun v17 v17a v17b => ?_)
        refine s_callS2 (s1 := 2) (s2 := 0) (as := [(0, v17), (0, 1000000000)]) (rest := []) kx_8_69 kp_8_66 rfl kcl_299 rfl rfl (by decide) (m_299 (d := d + 1) (a := 1000000000) (b := v17) hT hI) (kF (fun v18 v18p => ?_))
        exact s_iret kx_8_72 (Or.inl kq_8) ⟨_, rfl, rfl, trivial⟩
      · refine s_ldc kx_8_46 kp_8_74 ?_
        exact s_iret kx_8_48 (Or.inl kq_8) ⟨_, rfl, rfl, trivial⟩
  refine s_icmp_ne (t := 19) kx_8_12 (by decide) (fun hc2 => ?_) (fun hc2 => ?_)
  · refine s_iconst (v := 0) kx_8_19 (by decide) ?_
    exact cP.wk (lS1 rfl (lS1 rfl (lS1 rfl (lS1 rfl (lS1 rfl (lS1 rfl (lS1 rfl lS0))))))) (jn6 0 (by omega) (by omega))
  · refine s_iconst (v := 1) kx_8_15 (by decide) ?_
    refine s_goto (t := 20) kx_8_16 (by decide) ?_
    exact cP.wk (lS1 rfl (lS1 rfl (lS1 rfl (lS1 rfl (lS1 rfl (lS1 rfl (lS1 rfl lS0))))))) (jn6 1 (by omega) (by omega))
theorem kx_6_0 : x_code k_P 6 0 = some (.aload_n 1, 1) := by decide +kernel
theorem kx_6_1 : x_code k_P 6 1 = some (.getfield 27, 3) := by decide +kernel
theorem kp_6_27 : x_pool k_P 6 27 = (1, 5, 0) := by decide +kernel
theorem kx_6_4 : x_code k_P 6 4 = some (.aload_n 1, 1) := by decide +kernel
theorem kx_6_5 : x_code k_P 6 5 = some (.aload_n 2, 1) := by decide +kernel
theorem kx_6_6 : x_code k_P 6 6 = some (.iload_n 3, 1) := by decide +kernel
theorem kx_6_7 : x_code k_P 6 7 = some (.iload 4, 2) := by decide +kernel
theorem kx_6_9 : x_code k_P 6 9 = some (.invokestatic 79, 3) := by decide +kernel
theorem kp_6_79 : x_pool k_P 6 79 = (6, 5, 4) := by decide +kernel
theorem kcl_5 : x_maxL k_P 5 ≤ 60 ∧ 4 ≤ x_maxL k_P 5 := by decide +kernel
theorem kx_6_12 : x_code k_P 6 12 = some (.aload_n 2, 1) := by decide +kernel
theorem kx_6_13 : x_code k_P 6 13 = some (.getfield 43, 3) := by decide +kernel
theorem kp_6_43 : x_pool k_P 6 43 = (1, 8, 0) := by decide +kernel
theorem kx_6_16 : x_code k_P 6 16 = some (.iconst 2, 1) := by decide +kernel
theorem kx_6_17 : x_code k_P 6 17 = some (.iload 4, 2) := by decide +kernel
theorem kx_6_19 : x_code k_P 6 19 = some (.imul, 1) := by decide +kernel
theorem kx_6_20 : x_code k_P 6 20 = some (.iaload, 1) := by decide +kernel
theorem kx_6_21 : x_code k_P 6 21 = some (.invokevirtual 46, 3) := by decide +kernel
theorem kp_6_46 : x_pool k_P 6 46 = (2, 117, 2) := by decide +kernel
theorem kx_6_24 : x_code k_P 6 24 = some (.istore 6, 2) := by decide +kernel
theorem km_6_6 : 6 < x_maxL k_P 6 := by decide +kernel
theorem kx_6_26 : x_code k_P 6 26 = some (.aload_n 0, 1) := by decide +kernel
theorem kx_6_27 : x_code k_P 6 27 = some (.aload_n 1, 1) := by decide +kernel
theorem kx_6_28 : x_code k_P 6 28 = some (.aload_n 2, 1) := by decide +kernel
theorem kx_6_29 : x_code k_P 6 29 = some (.iload_n 3, 1) := by decide +kernel
theorem kx_6_30 : x_code k_P 6 30 = some (.iload 4, 2) := by decide +kernel
theorem kx_6_32 : x_code k_P 6 32 = some (.iload 5, 2) := by decide +kernel
theorem kx_6_34 : x_code k_P 6 34 = some (.iload 6, 2) := by decide +kernel
theorem kx_6_36 : x_code k_P 6 36 = some (.invokevirtual 83, 3) := by decide +kernel
theorem kp_6_83 : x_pool k_P 6 83 = (2, 8, 6) := by decide +kernel
theorem ki_8 : x_mci k_P 8 = 0 := by decide +kernel
theorem kcl_8 : x_maxL k_P 8 ≤ 60 ∧ 7 ≤ x_maxL k_P 8 := by decide +kernel
theorem kx_6_39 : x_code k_P 6 39 = some (.ireturn, 1) := by decide +kernel
theorem kq_6 : x_retk k_P 6 = 1 := by decide +kernel
theorem m_6 {xs : Nat → Int} {Ln d : Nat} {T : List cK} {M : cM} (hT : TT T) (hI : Rng M) {t : Nat} (ht : t = 8 ∨ t = 25) (h70 : M 7 0 = ((t : Nat) : Int)) {person k chairRoom : Int} (p0 : 0 ≤ person ∧ person ≤ 7) (p1 : 0 ≤ k ∧ k ≤ 11) (p2 : 0 ≤ chairRoom ∧ chairRoom ≤ 7) : cC k_P xs Ln (d + 3) 6 [rf 51, rf 7, rf 1, (0, person), (0, k), (0, chairRoom)] (T, M) (qF T M 0 (fun v => True)) := by
  show cP k_P xs Ln (d + 3) 6 0 [(0, rf 51), (1, rf 7), (2, rf 1), (3, (0, person)), (4, (0, k)), (5, (0, chairRoom))] [] (T, M) _
  refine s_aload_n kx_6_0 rfl ?_
  refine r_getR (k := 7) (f := 0) (k2 := t) kx_6_1 kp_6_27 (tk_7 hT) kf_5_0 (by decide) h70 ?_
  refine s_aload_n kx_6_4 rfl ?_
  refine s_aload_n kx_6_5 rfl ?_
  refine s_iload_n kx_6_6 rfl ?_
  refine s_iload kx_6_7 rfl ?_
  refine s_callS2 (s1 := 4) (s2 := 1) (as := [(0, k), (0, person), rf 1, rf 7]) (rest := [rf t]) kx_6_9 kp_6_79 rfl kcl_5 rfl rfl (by decide) (m_5 (d := d + 1) (person := person) (k := k) hT hI (by omega) (by omega)) (kF (fun v1 v1p => ?_))
  refine s_aload_n kx_6_12 rfl ?_
  refine r_getR (k := 1) (f := 0) (k2 := 2) kx_6_13 kp_6_43 (tk_1 hT) kf_8_0 (by decide) (rq_1_0 hI) ?_
  refine s_iconst (v := 2) kx_6_16 (by decide) ?_
  refine s_iload kx_6_17 rfl ?_
  refine r_mul kx_6_19 ⟨by omega, by omega⟩ ?_
  refine r_ald (k := 2) kx_6_20 (tk_2 hT) ⟨by omega, by omega⟩ (rg_2 hI) (fun v2 v2e v2a v2b => ?_)
  refine s_callV2 (k := t) (s1 := 3) (s2 := 0) (as := [(0, v2), (0, v1)]) (rest := []) kx_6_21 kp_6_46 (Or.inl rfl) rfl (tkt_0 hT ht) ki_117 kcl_117 rfl rfl (by decide) (m_117 (d := d + 1) (a := v1) (b := v2) hT hI ht) (kF (fun v3 v3p => ?_))
  refine s_istore kx_6_24 km_6_6 rfl ?_
  refine s_aload_n kx_6_26 rfl ?_
  refine s_aload_n kx_6_27 rfl ?_
  refine s_aload_n kx_6_28 rfl ?_
  refine s_iload_n kx_6_29 rfl ?_
  refine s_iload kx_6_30 rfl ?_
  refine s_iload kx_6_32 rfl ?_
  refine s_iload kx_6_34 rfl ?_
  refine s_callV2 (k := 51) (s1 := 7) (s2 := 0) (as := [(0, v3), (0, chairRoom), (0, k), (0, person), rf 1, rf 7]) (rest := []) kx_6_36 kp_6_83 (Or.inl rfl) rfl (tk_51 hT) ki_8 kcl_8 rfl rfl (by decide) (m_8 (d := d) (person := person) (k := k) (chairRoom := chairRoom) (minutes := v3) hT hI ht h70 (by omega) (by omega) (by omega)) (kF (fun v4 v4p => ?_))
  exact s_iret kx_6_39 (Or.inl kq_6) ⟨_, rfl, rfl, trivial⟩
theorem kx_7_0 : x_code k_P 7 0 = some (.aload_n 1, 1) := by decide +kernel
theorem kx_7_1 : x_code k_P 7 1 = some (.aload_n 2, 1) := by decide +kernel
theorem kx_7_2 : x_code k_P 7 2 = some (.iload_n 3, 1) := by decide +kernel
theorem kx_7_3 : x_code k_P 7 3 = some (.iload 4, 2) := by decide +kernel
theorem kx_7_5 : x_code k_P 7 5 = some (.invokestatic 79, 3) := by decide +kernel
theorem kp_7_79 : x_pool k_P 7 79 = (6, 5, 4) := by decide +kernel
theorem kx_7_8 : x_code k_P 7 8 = some (.istore 6, 2) := by decide +kernel
theorem km_7_6 : 6 < x_maxL k_P 7 := by decide +kernel
theorem kx_7_10 : x_code k_P 7 10 = some (.aload_n 2, 1) := by decide +kernel
theorem kx_7_11 : x_code k_P 7 11 = some (.getfield 43, 3) := by decide +kernel
theorem kp_7_43 : x_pool k_P 7 43 = (1, 8, 0) := by decide +kernel
theorem kx_7_14 : x_code k_P 7 14 = some (.iconst 2, 1) := by decide +kernel
theorem kx_7_15 : x_code k_P 7 15 = some (.iload 4, 2) := by decide +kernel
theorem kx_7_17 : x_code k_P 7 17 = some (.imul, 1) := by decide +kernel
theorem kx_7_18 : x_code k_P 7 18 = some (.iaload, 1) := by decide +kernel
theorem kx_7_19 : x_code k_P 7 19 = some (.istore 7, 2) := by decide +kernel
theorem km_7_7 : 7 < x_maxL k_P 7 := by decide +kernel
theorem kx_7_21 : x_code k_P 7 21 = some (.iload 5, 2) := by decide +kernel
theorem kx_7_23 : x_code k_P 7 23 = some (.iload 6, 2) := by decide +kernel
theorem kx_7_25 : x_code k_P 7 25 = some (.if_icmp .ne 21, 3) := by decide +kernel
theorem kx_7_46 : x_code k_P 7 46 = some (.ldc 74, 2) := by decide +kernel
theorem kp_7_74 : x_pool k_P 7 74 = (7, 0, 1000000000) := by decide +kernel
theorem kx_7_48 : x_code k_P 7 48 = some (.ireturn, 1) := by decide +kernel
theorem kq_7 : x_retk k_P 7 = 1 := by decide +kernel
theorem kx_7_28 : x_code k_P 7 28 = some (.aload_n 1, 1) := by decide +kernel
theorem kx_7_29 : x_code k_P 7 29 = some (.iload_n 3, 1) := by decide +kernel
theorem kx_7_30 : x_code k_P 7 30 = some (.invokevirtual 87, 3) := by decide +kernel
theorem kp_7_87 : x_pool k_P 7 87 = (2, 45, 1) := by decide +kernel
theorem kx_7_33 : x_code k_P 7 33 = some (.ifCond .ne 13, 3) := by decide +kernel
theorem kx_7_36 : x_code k_P 7 36 = some (.aload_n 1, 1) := by decide +kernel
theorem kx_7_37 : x_code k_P 7 37 = some (.iload 7, 2) := by decide +kernel
theorem kx_7_39 : x_code k_P 7 39 = some (.iload_n 3, 1) := by decide +kernel
theorem kx_7_40 : x_code k_P 7 40 = some (.invokevirtual 90, 3) := by decide +kernel
theorem kp_7_90 : x_pool k_P 7 90 = (2, 57, 2) := by decide +kernel
theorem kx_7_43 : x_code k_P 7 43 = some (.ifCond .ne 6, 3) := by decide +kernel
theorem kx_7_49 : x_code k_P 7 49 = some (.aload_n 1, 1) := by decide +kernel
theorem kx_7_50 : x_code k_P 7 50 = some (.iload_n 3, 1) := by decide +kernel
theorem kx_7_51 : x_code k_P 7 51 = some (.iload_n 3, 1) := by decide +kernel
theorem kx_7_52 : x_code k_P 7 52 = some (.aload_n 1, 1) := by decide +kernel
theorem kx_7_53 : x_code k_P 7 53 = some (.getfield 27, 3) := by decide +kernel
theorem kp_7_27 : x_pool k_P 7 27 = (1, 5, 0) := by decide +kernel
theorem kx_7_56 : x_code k_P 7 56 = some (.iload 6, 2) := by decide +kernel
theorem kx_7_58 : x_code k_P 7 58 = some (.iload 7, 2) := by decide +kernel
theorem kx_7_60 : x_code k_P 7 60 = some (.invokevirtual 46, 3) := by decide +kernel
theorem kp_7_46 : x_pool k_P 7 46 = (2, 117, 2) := by decide +kernel
theorem kx_7_63 : x_code k_P 7 63 = some (.invokevirtual 94, 3) := by decide +kernel
theorem kp_7_94 : x_pool k_P 7 94 = (2, 62, 3) := by decide +kernel
theorem kx_7_66 : x_code k_P 7 66 = some (.istore 8, 2) := by decide +kernel
theorem km_7_8 : 8 < x_maxL k_P 7 := by decide +kernel
theorem kx_7_68 : x_code k_P 7 68 = some (.aload_n 0, 1) := by decide +kernel
theorem kx_7_69 : x_code k_P 7 69 = some (.aload_n 1, 1) := by decide +kernel
theorem kx_7_70 : x_code k_P 7 70 = some (.aload_n 2, 1) := by decide +kernel
theorem kx_7_71 : x_code k_P 7 71 = some (.iload_n 3, 1) := by decide +kernel
theorem kx_7_72 : x_code k_P 7 72 = some (.iload 4, 2) := by decide +kernel
theorem kx_7_74 : x_code k_P 7 74 = some (.iload 7, 2) := by decide +kernel
theorem kx_7_76 : x_code k_P 7 76 = some (.iload 8, 2) := by decide +kernel
theorem kx_7_78 : x_code k_P 7 78 = some (.invokevirtual 83, 3) := by decide +kernel
theorem kp_7_83 : x_pool k_P 7 83 = (2, 8, 6) := by decide +kernel
theorem kx_7_81 : x_code k_P 7 81 = some (.ireturn, 1) := by decide +kernel
def fS_7_m : List (Nat × Nat) := [(20, 99999), (23, 99999), (37, 99999), (40, 99999), (43, 99999)]
theorem m_7 {xs : Nat → Int} {Ln d : Nat} {T : List cK} {M : cM} (hT : TT T) (hI : Rng M) {t : Nat} (ht : t = 8 ∨ t = 25) (h70 : M 7 0 = ((t : Nat) : Int)) (hN : Fm T M) {person k chairRoom : Int} (p0 : 0 ≤ person ∧ person ≤ 7) (p1 : 0 ≤ k ∧ k ≤ 11) (p2 : 0 ≤ chairRoom ∧ chairRoom ≤ 7) : cC k_P xs Ln (d + 5) 7 [rf 51, rf 7, rf 1, (0, person), (0, k), (0, chairRoom)] (T, M) (qW T M fS_7_m 0 (fun v M1 => True)) := by
  show cP k_P xs Ln (d + 5) 7 0 [(0, rf 51), (1, rf 7), (2, rf 1), (3, (0, person)), (4, (0, k)), (5, (0, chairRoom))] [] (T, M) _
  have hFm : Fr fS_7_m M M := Fr.refl
  refine s_aload_n kx_7_0 rfl ?_
  refine s_aload_n kx_7_1 rfl ?_
  refine s_iload_n kx_7_2 rfl ?_
  refine s_iload kx_7_3 rfl ?_
  refine s_callS2 (s1 := 4) (s2 := 0) (as := [(0, k), (0, person), rf 1, rf 7]) (rest := []) kx_7_5 kp_7_79 rfl kcl_5 rfl rfl (by decide) (m_5 (d := d + 3) (person := person) (k := k) hT hI (by omega) (by omega)) (kF (fun v1 v1p => ?_))
  refine s_istore kx_7_8 km_7_6 rfl ?_
  refine s_aload_n kx_7_10 rfl ?_
  refine r_getR (k := 1) (f := 0) (k2 := 2) kx_7_11 kp_7_43 (tk_1 hT) kf_8_0 (by decide) (rq_1_0 hI) ?_
  refine s_iconst (v := 2) kx_7_14 (by decide) ?_
  refine s_iload kx_7_15 rfl ?_
  refine r_mul kx_7_17 ⟨by omega, by omega⟩ ?_
  refine r_ald (k := 2) kx_7_18 (tk_2 hT) ⟨by omega, by omega⟩ (rg_2 hI) (fun v2 v2e v2a v2b => ?_)
  refine s_istore kx_7_19 km_7_7 rfl ?_
  refine s_iload kx_7_21 rfl ?_
  refine s_iload kx_7_23 rfl ?_
  refine s_icmp_ne (t := 46) kx_7_25 (by decide) (fun hc3 => ?_) (fun hc3 => ?_)
  · refine s_ldc kx_7_46 kp_7_74 ?_
    exact s_iret kx_7_48 (Or.inl kq_7) ⟨_, _, rfl, rfl, hI, hFm, trivial⟩
  · refine s_aload_n kx_7_28 rfl ?_
    refine s_iload_n kx_7_29 rfl ?_
    refine s_callV2 (k := 7) (s1 := 2) (s2 := 0) (as := [(0, person)]) (rest := []) kx_7_30 kp_7_87 (Or.inl rfl) rfl (tk_7 hT) ki_45 kcl_45 rfl rfl (by decide) (m_45 (d := d + 4) (chair := person) hT hI (by omega)) (kF (fun v4 v4p => ?_))
    refine s_if_ne (t := 46) kx_7_33 (by decide) (fun hc5 => ?_) (fun hc5 => ?_)
    · refine s_ldc kx_7_46 kp_7_74 ?_
      exact s_iret kx_7_48 (Or.inl kq_7) ⟨_, _, rfl, rfl, hI, hFm, trivial⟩
    · refine s_aload_n kx_7_36 rfl ?_
      refine s_iload kx_7_37 rfl ?_
      refine s_iload_n kx_7_39 rfl ?_
      refine s_callV2 (k := 7) (s1 := 3) (s2 := 0) (as := [(0, person), (0, v2)]) (rest := []) kx_7_40 kp_7_90 (Or.inl rfl) rfl (tk_7 hT) ki_57 kcl_57 rfl rfl (by decide) (m_57 (d := d + 2) (room := v2) (chair := person) hT hI ht h70) (kF (fun v6 v6p => ?_))
      refine s_if_ne (t := 49) kx_7_43 (by decide) (fun hc7 => ?_) (fun hc7 => ?_)
      · replace v6p := v6p.resolve_right (by omega)
        refine s_aload_n kx_7_49 rfl ?_
        refine s_iload_n kx_7_50 rfl ?_
        refine s_iload_n kx_7_51 rfl ?_
        refine s_aload_n kx_7_52 rfl ?_
        refine r_getR (k := 7) (f := 0) (k2 := t) kx_7_53 kp_7_27 (tk_7 hT) kf_5_0 (by decide) h70 ?_
        refine s_iload kx_7_56 rfl ?_
        refine s_iload kx_7_58 rfl ?_
        refine s_callV2 (k := t) (s1 := 3) (s2 := 3) (as := [(0, v2), (0, v1)]) (rest := [(0, person), (0, person), rf 7]) kx_7_60 kp_7_46 (Or.inl rfl) rfl (tkt_0 hT ht) ki_117 kcl_117 rfl rfl (by decide) (m_117 (d := d + 3) (a := v1) (b := v2) hT hI ht) (kF (fun v8 v8p => ?_))
        refine s_callV2 (k := 7) (s1 := 4) (s2 := 0) (as := [(0, v8), (0, person), (0, person)]) (rest := []) kx_7_63 kp_7_94 (Or.inl rfl) rfl (tk_7 hT) ki_62 kcl_62 rfl rfl (by decide) (m_62 (d := d) (person := person) (chair := person) (wayMinutes := v8) hT hI ht h70 hN (by omega) (by omega)) (kW (fun v9 M10 hI10 fr10 v9p => ?_))
        have hFm10 := hFm.call fr10 rfl
        refine s_istore kx_7_66 km_7_8 rfl ?_
        refine s_aload_n kx_7_68 rfl ?_
        refine s_aload_n kx_7_69 rfl ?_
        refine s_aload_n kx_7_70 rfl ?_
        refine s_iload_n kx_7_71 rfl ?_
        refine s_iload kx_7_72 rfl ?_
        refine s_iload kx_7_74 rfl ?_
        refine s_iload kx_7_76 rfl ?_
        refine s_callV2 (k := 51) (s1 := 7) (s2 := 0) (as := [(0, v9), (0, v2), (0, k), (0, person), rf 1, rf 7]) (rest := []) kx_7_78 kp_7_83 (Or.inl rfl) rfl (tk_51 hT) ki_8 kcl_8 rfl rfl (by decide) (m_8 (d := d + 2) (person := person) (k := k) (chairRoom := v2) (minutes := v9) hT hI10 ht ((fr10 7 0 rfl).trans h70) (by omega) (by omega) (by omega)) (kF (fun v11 v11p => ?_))
        exact s_iret kx_7_81 (Or.inl kq_7) ⟨_, _, rfl, rfl, hI10, hFm10, trivial⟩
      · replace v6p := v6p.resolve_left (by omega)
        refine s_ldc kx_7_46 kp_7_74 ?_
        exact s_iret kx_7_48 (Or.inl kq_7) ⟨_, _, rfl, rfl, hI, hFm, trivial⟩
theorem kx_2_0 : x_code k_P 2 0 = some (.aload_n 2, 1) := by decide +kernel
theorem kx_2_1 : x_code k_P 2 1 = some (.getfield 22, 3) := by decide +kernel
theorem kp_2_22 : x_pool k_P 2 22 = (1, 8, 1) := by decide +kernel
theorem kx_2_4 : x_code k_P 2 4 = some (.iconst 2, 1) := by decide +kernel
theorem kx_2_5 : x_code k_P 2 5 = some (.if_icmp .lt 25, 3) := by decide +kernel
theorem kx_2_30 : x_code k_P 2 30 = some (.iconst 0, 1) := by decide +kernel
theorem kx_2_31 : x_code k_P 2 31 = some (.istore 4, 2) := by decide +kernel
theorem km_2_4 : 4 < x_maxL k_P 2 := by decide +kernel
theorem kx_2_33 : x_code k_P 2 33 = some (.aload_n 1, 1) := by decide +kernel
theorem kx_2_34 : x_code k_P 2 34 = some (.getfield 27, 3) := by decide +kernel
theorem kp_2_27 : x_pool k_P 2 27 = (1, 5, 0) := by decide +kernel
theorem kx_2_37 : x_code k_P 2 37 = some (.iload_n 3, 1) := by decide +kernel
theorem kx_2_38 : x_code k_P 2 38 = some (.invokevirtual 33, 3) := by decide +kernel
theorem kp_2_33 : x_pool k_P 2 33 = (2, 107, 1) := by decide +kernel
theorem kx_2_41 : x_code k_P 2 41 = some (.ifCond .eq 8, 3) := by decide +kernel
theorem kx_2_49 : x_code k_P 2 49 = some (.iconst 0, 1) := by decide +kernel
theorem kx_2_50 : x_code k_P 2 50 = some (.ireturn, 1) := by decide +kernel
theorem kq_2 : x_retk k_P 2 = 2 := by decide +kernel
theorem kx_2_44 : x_code k_P 2 44 = some (.iload 4, 2) := by decide +kernel
theorem kx_2_46 : x_code k_P 2 46 = some (.ifCond .ne 5, 3) := by decide +kernel
theorem kx_2_8 : x_code k_P 2 8 = some (.aload_n 2, 1) := by decide +kernel
theorem kx_2_9 : x_code k_P 2 9 = some (.getfield 22, 3) := by decide +kernel
theorem kx_2_12 : x_code k_P 2 12 = some (.bipush 24, 2) := by decide +kernel
theorem kx_2_14 : x_code k_P 2 14 = some (.if_icmp .gt 16, 3) := by decide +kernel
theorem kx_2_17 : x_code k_P 2 17 = some (.aload_n 2, 1) := by decide +kernel
theorem kx_2_18 : x_code k_P 2 18 = some (.getfield 22, 3) := by decide +kernel
theorem kx_2_21 : x_code k_P 2 21 = some (.iconst 2, 1) := by decide +kernel
theorem kx_2_22 : x_code k_P 2 22 = some (.irem, 1) := by decide +kernel
theorem kx_2_23 : x_code k_P 2 23 = some (.ifCond .ne 7, 3) := by decide +kernel
theorem kx_2_26 : x_code k_P 2 26 = some (.iconst 1, 1) := by decide +kernel
theorem kx_2_27 : x_code k_P 2 27 = some (.goto 4, 3) := by decide +kernel
theorem kx_2_51 : x_code k_P 2 51 = some (.aload_n 1, 1) := by decide +kernel
theorem kx_2_52 : x_code k_P 2 52 = some (.iload_n 3, 1) := by decide +kernel
theorem kx_2_53 : x_code k_P 2 53 = some (.invokevirtual 39, 3) := by decide +kernel
theorem kp_2_39 : x_pool k_P 2 39 = (2, 43, 1) := by decide +kernel
theorem kx_2_56 : x_code k_P 2 56 = some (.istore 5, 2) := by decide +kernel
theorem km_2_5 : 5 < x_maxL k_P 2 := by decide +kernel
theorem kx_2_58 : x_code k_P 2 58 = some (.iconst 0, 1) := by decide +kernel
theorem kx_2_59 : x_code k_P 2 59 = some (.istore 6, 2) := by decide +kernel
theorem km_2_6 : 6 < x_maxL k_P 2 := by decide +kernel
theorem kx_2_61 : x_code k_P 2 61 = some (.iload 6, 2) := by decide +kernel
theorem kx_2_63 : x_code k_P 2 63 = some (.iconst 1, 1) := by decide +kernel
theorem kx_2_64 : x_code k_P 2 64 = some (.iadd, 1) := by decide +kernel
theorem kx_2_65 : x_code k_P 2 65 = some (.aload_n 2, 1) := by decide +kernel
theorem kx_2_66 : x_code k_P 2 66 = some (.getfield 22, 3) := by decide +kernel
theorem kx_2_69 : x_code k_P 2 69 = some (.if_icmp .ge 52, 3) := by decide +kernel
theorem kx_2_121 : x_code k_P 2 121 = some (.iconst 1, 1) := by decide +kernel
theorem kx_2_122 : x_code k_P 2 122 = some (.ireturn, 1) := by decide +kernel
theorem kx_2_72 : x_code k_P 2 72 = some (.aload_n 1, 1) := by decide +kernel
theorem kx_2_73 : x_code k_P 2 73 = some (.getfield 27, 3) := by decide +kernel
theorem kx_2_76 : x_code k_P 2 76 = some (.iload 5, 2) := by decide +kernel
theorem kx_2_78 : x_code k_P 2 78 = some (.aload_n 2, 1) := by decide +kernel
theorem kx_2_79 : x_code k_P 2 79 = some (.getfield 43, 3) := by decide +kernel
theorem kp_2_43 : x_pool k_P 2 43 = (1, 8, 0) := by decide +kernel
theorem kx_2_82 : x_code k_P 2 82 = some (.iload 6, 2) := by decide +kernel
theorem kx_2_84 : x_code k_P 2 84 = some (.iaload, 1) := by decide +kernel
theorem kx_2_85 : x_code k_P 2 85 = some (.invokevirtual 46, 3) := by decide +kernel
theorem kp_2_46 : x_pool k_P 2 46 = (2, 117, 2) := by decide +kernel
theorem kx_2_88 : x_code k_P 2 88 = some (.ifCond .eq 16, 3) := by decide +kernel
theorem kx_2_104 : x_code k_P 2 104 = some (.iconst 0, 1) := by decide +kernel
theorem kx_2_105 : x_code k_P 2 105 = some (.ireturn, 1) := by decide +kernel
theorem kx_2_91 : x_code k_P 2 91 = some (.aload_n 2, 1) := by decide +kernel
theorem kx_2_92 : x_code k_P 2 92 = some (.getfield 43, 3) := by decide +kernel
theorem kx_2_95 : x_code k_P 2 95 = some (.iload 6, 2) := by decide +kernel
theorem kx_2_97 : x_code k_P 2 97 = some (.iconst 1, 1) := by decide +kernel
theorem kx_2_98 : x_code k_P 2 98 = some (.iadd, 1) := by decide +kernel
theorem kx_2_99 : x_code k_P 2 99 = some (.iaload, 1) := by decide +kernel
theorem kx_2_100 : x_code k_P 2 100 = some (.iconst 1, 1) := by decide +kernel
theorem kx_2_101 : x_code k_P 2 101 = some (.if_icmp .le 5, 3) := by decide +kernel
theorem kx_2_106 : x_code k_P 2 106 = some (.aload_n 2, 1) := by decide +kernel
theorem kx_2_107 : x_code k_P 2 107 = some (.getfield 43, 3) := by decide +kernel
theorem kx_2_110 : x_code k_P 2 110 = some (.iload 6, 2) := by decide +kernel
theorem kx_2_112 : x_code k_P 2 112 = some (.iaload, 1) := by decide +kernel
theorem kx_2_113 : x_code k_P 2 113 = some (.istore 5, 2) := by decide +kernel
theorem kx_2_115 : x_code k_P 2 115 = some (.iinc 6 2, 3) := by decide +kernel
theorem kx_2_118 : x_code k_P 2 118 = some (.goto (-57), 3) := by decide +kernel
theorem m_2 {xs : Nat → Int} {Ln d : Nat} {T : List cK} {M : cM} (hT : TT T) (hI : Rng M) {t : Nat} (ht : t = 8 ∨ t = 25) (h70 : M 7 0 = ((t : Nat) : Int)) {person : Int} : cC k_P xs Ln (d + 2) 2 [rf 51, rf 7, rf 1, (0, person)] (T, M) (qF T M 0 (fun v => (v = 1 ∧ 0 ≤ person ∧ person ≤ 7 ∧ 2 ≤ M 1 1 ∧ M 1 1 ≤ 24 ∧ M 1 1 % 2 = 0 ∧ ∀ q : Int, 0 ≤ q → 2 * q < M 1 1 → 0 ≤ M 2 (2 * q).toNat ∧ M 2 (2 * q).toNat ≤ 7) ∨ v = 0)) := by
  show cP k_P xs Ln (d + 2) 2 0 [(0, rf 51), (1, rf 7), (2, rf 1), (3, (0, person))] [] (T, M) _
  refine s_aload_n kx_2_0 rfl ?_
  refine r_getI (k := 1) (f := 1) kx_2_1 kp_2_22 (tk_1 hT) kf_8_1 (fun _ => rfl) (rg_1_1 hI) (fun v1 v1e v1a v1b => ?_)
  refine s_iconst (v := 2) kx_2_4 (by decide) ?_
  refine s_icmp_lt (t := 30) kx_2_5 (by decide) (fun hc2 => ?_) (fun hc2 => ?_)
  · refine s_iconst (v := 0) kx_2_30 (by decide) ?_
    refine s_istore kx_2_31 km_2_4 rfl ?_
    refine s_aload_n kx_2_33 rfl ?_
    refine r_getR (k := 7) (f := 0) (k2 := t) kx_2_34 kp_2_27 (tk_7 hT) kf_5_0 (by decide) h70 ?_
    refine s_iload_n kx_2_37 rfl ?_
    refine s_callV2 (k := t) (s1 := 2) (s2 := 0) (as := [(0, person)]) (rest := []) kx_2_38 kp_2_33 (Or.inl rfl) rfl (tkt_0 hT ht) ki_107 kcl_107 rfl rfl (by decide) (m_107 (d := d + 1) (person := person) hT hI ht) (kF (fun v3 v3p => ?_))
    refine s_if_eq (t := 49) kx_2_41 (by decide) (fun hc4 => ?_) (fun hc4 => ?_)
    · replace v3p := v3p.resolve_left (by omega)
      refine s_iconst (v := 0) kx_2_49 (by decide) ?_
      exact s_iret kx_2_50 (Or.inr ⟨kq_2, by omega⟩) ⟨_, rfl, rfl, (Or.inr rfl)⟩
    · replace v3p := v3p.resolve_right (by omega)
      refine s_iload kx_2_44 rfl ?_
      refine s_if_ne (t := 51) kx_2_46 (by decide) (fun hc5 => absurd hc5 (by decide)) (fun hc5 => ?_)
      refine s_iconst (v := 0) kx_2_49 (by decide) ?_
      exact s_iret kx_2_50 (Or.inr ⟨kq_2, by omega⟩) ⟨_, rfl, rfl, (Or.inr rfl)⟩
  · refine s_aload_n kx_2_8 rfl ?_
    refine r_getK (k := 1) (f := 1) kx_2_9 kp_2_22 (tk_1 hT) kf_8_1 (fun _ => rfl) v1e ?_
    refine s_bipush (v := 24) kx_2_12 (by decide) ?_
    refine s_icmp_gt (t := 30) kx_2_14 (by decide) (fun hc6 => ?_) (fun hc6 => ?_)
    · refine s_iconst (v := 0) kx_2_30 (by decide) ?_
      refine s_istore kx_2_31 km_2_4 rfl ?_
      refine s_aload_n kx_2_33 rfl ?_
      refine r_getR (k := 7) (f := 0) (k2 := t) kx_2_34 kp_2_27 (tk_7 hT) kf_5_0 (by decide) h70 ?_
      refine s_iload_n kx_2_37 rfl ?_
      refine s_callV2 (k := t) (s1 := 2) (s2 := 0) (as := [(0, person)]) (rest := []) kx_2_38 kp_2_33 (Or.inl rfl) rfl (tkt_0 hT ht) ki_107 kcl_107 rfl rfl (by decide) (m_107 (d := d + 1) (person := person) hT hI ht) (kF (fun v7 v7p => ?_))
      refine s_if_eq (t := 49) kx_2_41 (by decide) (fun hc8 => ?_) (fun hc8 => ?_)
      · replace v7p := v7p.resolve_left (by omega)
        refine s_iconst (v := 0) kx_2_49 (by decide) ?_
        exact s_iret kx_2_50 (Or.inr ⟨kq_2, by omega⟩) ⟨_, rfl, rfl, (Or.inr rfl)⟩
      · replace v7p := v7p.resolve_right (by omega)
        refine s_iload kx_2_44 rfl ?_
        refine s_if_ne (t := 51) kx_2_46 (by decide) (fun hc9 => absurd hc9 (by decide)) (fun hc9 => ?_)
        refine s_iconst (v := 0) kx_2_49 (by decide) ?_
        exact s_iret kx_2_50 (Or.inr ⟨kq_2, by omega⟩) ⟨_, rfl, rfl, (Or.inr rfl)⟩
    · refine s_aload_n kx_2_17 rfl ?_
      refine r_getK (k := 1) (f := 1) kx_2_18 kp_2_22 (tk_1 hT) kf_8_1 (fun _ => rfl) v1e ?_
      refine s_iconst (v := 2) kx_2_21 (by decide) ?_
      refine r_irem kx_2_22 (by omega) (by omega) (by omega) (by omega) ?_
      refine s_if_ne (t := 30) kx_2_23 (by decide) (fun hc10 => ?_) (fun hc10 => ?_)
      · refine s_iconst (v := 0) kx_2_30 (by decide) ?_
        refine s_istore kx_2_31 km_2_4 rfl ?_
        refine s_aload_n kx_2_33 rfl ?_
        refine r_getR (k := 7) (f := 0) (k2 := t) kx_2_34 kp_2_27 (tk_7 hT) kf_5_0 (by decide) h70 ?_
        refine s_iload_n kx_2_37 rfl ?_
        refine s_callV2 (k := t) (s1 := 2) (s2 := 0) (as := [(0, person)]) (rest := []) kx_2_38 kp_2_33 (Or.inl rfl) rfl (tkt_0 hT ht) ki_107 kcl_107 rfl rfl (by decide) (m_107 (d := d + 1) (person := person) hT hI ht) (kF (fun v11 v11p => ?_))
        refine s_if_eq (t := 49) kx_2_41 (by decide) (fun hc12 => ?_) (fun hc12 => ?_)
        · replace v11p := v11p.resolve_left (by omega)
          refine s_iconst (v := 0) kx_2_49 (by decide) ?_
          exact s_iret kx_2_50 (Or.inr ⟨kq_2, by omega⟩) ⟨_, rfl, rfl, (Or.inr rfl)⟩
        · replace v11p := v11p.resolve_right (by omega)
          refine s_iload kx_2_44 rfl ?_
          refine s_if_ne (t := 51) kx_2_46 (by decide) (fun hc13 => absurd hc13 (by decide)) (fun hc13 => ?_)
          refine s_iconst (v := 0) kx_2_49 (by decide) ?_
          exact s_iret kx_2_50 (Or.inr ⟨kq_2, by omega⟩) ⟨_, rfl, rfl, (Or.inr rfl)⟩
      · refine s_iconst (v := 1) kx_2_26 (by decide) ?_
        refine s_goto (t := 31) kx_2_27 (by decide) ?_
        refine s_istore kx_2_31 km_2_4 rfl ?_
        refine s_aload_n kx_2_33 rfl ?_
        refine r_getR (k := 7) (f := 0) (k2 := t) kx_2_34 kp_2_27 (tk_7 hT) kf_5_0 (by decide) h70 ?_
        refine s_iload_n kx_2_37 rfl ?_
        refine s_callV2 (k := t) (s1 := 2) (s2 := 0) (as := [(0, person)]) (rest := []) kx_2_38 kp_2_33 (Or.inl rfl) rfl (tkt_0 hT ht) ki_107 kcl_107 rfl rfl (by decide) (m_107 (d := d + 1) (person := person) hT hI ht) (kF (fun v14 v14p => ?_))
        refine s_if_eq (t := 49) kx_2_41 (by decide) (fun hc15 => ?_) (fun hc15 => ?_)
        · replace v14p := v14p.resolve_left (by omega)
          refine s_iconst (v := 0) kx_2_49 (by decide) ?_
          exact s_iret kx_2_50 (Or.inr ⟨kq_2, by omega⟩) ⟨_, rfl, rfl, (Or.inr rfl)⟩
        · replace v14p := v14p.resolve_right (by omega)
          refine s_iload kx_2_44 rfl ?_
          refine s_if_ne (t := 51) kx_2_46 (by decide) (fun hc16 => ?_) (fun hc16 => absurd hc16 (by decide))
          refine s_aload_n kx_2_51 rfl ?_
          refine s_iload_n kx_2_52 rfl ?_
          refine s_callV2 (k := 7) (s1 := 2) (s2 := 0) (as := [(0, person)]) (rest := []) kx_2_53 kp_2_39 (Or.inl rfl) rfl (tk_7 hT) ki_43 kcl_43 rfl rfl (by decide) (m_43 (d := d + 1) (person := person) hT hI (by omega)) (kF (fun v17 v17p => ?_))
          refine s_istore kx_2_56 km_2_5 rfl ?_
          refine s_iconst (v := 0) kx_2_58 (by decide) ?_
          refine s_istore kx_2_59 km_2_6 rfl ?_
          have key20 : ∀ n21 : Nat, ∀ (x5_18 x6_19 : Int), (0 ≤ x6_19) → (x6_19 ≤ 24) → (x6_19 % 2 = 0) → (∀ q : Int, 0 ≤ q → 2 * q < x6_19 → 0 ≤ M 2 (2 * q).toNat ∧ M 2 (2 * q).toNat ≤ 7) → (2147483647 - x6_19).toNat < n21 → cP k_P xs Ln (d + 2) 2 61 [(1, rf 7), (2, rf 1), (5, (0, x5_18)), (6, (0, x6_19))] [] (T, M) (qF T M 0 (fun v => (v = 1 ∧ 0 ≤ person ∧ person ≤ 7 ∧ 2 ≤ M 1 1 ∧ M 1 1 ≤ 24 ∧ M 1 1 % 2 = 0 ∧ ∀ q : Int, 0 ≤ q → 2 * q < M 1 1 → 0 ≤ M 2 (2 * q).toNat ∧ M 2 (2 * q).toNat ≤ 7) ∨ v = 0)) := by
            intro n21
            induction n21 with
            | zero => intro x5_18 x6_19 i22 i23 i24 i25 hm26; exact absurd hm26 (Nat.not_lt_zero _)
            | succ n21 ih27 =>
              intro x5_18 x6_19 i22 i23 i24 i25 hm26
              refine s_iload kx_2_61 rfl ?_
              refine s_iconst (v := 1) kx_2_63 (by decide) ?_
              refine r_add kx_2_64 ⟨by omega, by omega⟩ ?_
              refine s_aload_n kx_2_65 rfl ?_
              refine r_getK (k := 1) (f := 1) kx_2_66 kp_2_22 (tk_1 hT) kf_8_1 (fun _ => rfl) v1e ?_
              refine s_icmp_ge (t := 121) kx_2_69 (by decide) (fun hc28 => ?_) (fun hc28 => ?_)
              · refine s_iconst (v := 1) kx_2_121 (by decide) ?_
                exact s_iret kx_2_122 (Or.inr ⟨kq_2, by omega⟩) ⟨_, rfl, rfl, (Or.inl ⟨rfl, by omega, by omega, by omega, by omega, by omega, fun q a b => i25 q a (by omega)⟩)⟩
              · refine s_aload_n kx_2_72 rfl ?_
                refine r_getR (k := 7) (f := 0) (k2 := t) kx_2_73 kp_2_27 (tk_7 hT) kf_5_0 (by decide) h70 ?_
                refine s_iload kx_2_76 rfl ?_
                refine s_aload_n kx_2_78 rfl ?_
                refine r_getR (k := 1) (f := 0) (k2 := 2) kx_2_79 kp_2_43 (tk_1 hT) kf_8_0 (by decide) (rq_1_0 hI) ?_
                refine s_iload kx_2_82 rfl ?_
                refine r_ald (k := 2) kx_2_84 (tk_2 hT) ⟨by omega, by omega⟩ (rg_2 hI) (fun v29 v29e v29a v29b => ?_)
                refine s_callV2 (k := t) (s1 := 3) (s2 := 0) (as := [(0, v29), (0, x5_18)]) (rest := []) kx_2_85 kp_2_46 (Or.inl rfl) rfl (tkt_0 hT ht) ki_117 kcl_117 rfl rfl (by decide) (m_117 (d := d) (a := x5_18) (b := v29) hT hI ht) (kF (fun v30 v30p => ?_))
                refine s_if_eq (t := 104) kx_2_88 (by decide) (fun hc31 => ?_) (fun hc31 => ?_)
                · refine s_iconst (v := 0) kx_2_104 (by decide) ?_
                  exact s_iret kx_2_105 (Or.inr ⟨kq_2, by omega⟩) ⟨_, rfl, rfl, (Or.inr rfl)⟩
                · refine s_aload_n kx_2_91 rfl ?_
                  refine r_getR (k := 1) (f := 0) (k2 := 2) kx_2_92 kp_2_43 (tk_1 hT) kf_8_0 (by decide) (rq_1_0 hI) ?_
                  refine s_iload kx_2_95 rfl ?_
                  refine s_iconst (v := 1) kx_2_97 (by decide) ?_
                  refine r_add kx_2_98 ⟨by omega, by omega⟩ ?_
                  refine r_ald (k := 2) kx_2_99 (tk_2 hT) ⟨by omega, by omega⟩ (rg_2 hI) (fun v32 v32e v32a v32b => ?_)
                  refine s_iconst (v := 1) kx_2_100 (by decide) ?_
                  refine s_icmp_le (t := 106) kx_2_101 (by decide) (fun hc33 => ?_) (fun hc33 => ?_)
                  · refine s_aload_n kx_2_106 rfl ?_
                    refine r_getR (k := 1) (f := 0) (k2 := 2) kx_2_107 kp_2_43 (tk_1 hT) kf_8_0 (by decide) (rq_1_0 hI) ?_
                    refine s_iload kx_2_110 rfl ?_
                    refine r_aldK (k := 2) kx_2_112 (tk_2 hT) ⟨by omega, by omega⟩ v29e ?_
                    refine s_istore kx_2_113 km_2_5 rfl ?_
                    refine r_iinc kx_2_115 rfl km_2_6 (by decide) ⟨by omega, by omega⟩ rfl ?_
                    refine s_goto (t := 61) kx_2_118 (by decide) ?_
                    exact cP.wk (lS1 rfl (lS1 rfl (lS1 rfl (lS1 rfl lS0)))) (ih27 v29 (x6_19 + 2) (by omega) (by omega) (by omega) (fun q a b => if e : 2 * q = x6_19 then (by rw [e]; omega) else i25 q a (by omega)) (by omega))
                  · refine s_iconst (v := 0) kx_2_104 (by decide) ?_
                    exact s_iret kx_2_105 (Or.inr ⟨kq_2, by omega⟩) ⟨_, rfl, rfl, (Or.inr rfl)⟩
          exact cP.wk (lS1 rfl (lS1 rfl (lS1 rfl (lS1 rfl lS0)))) (key20 _ v17 0 (by omega) (by omega) (by omega) (fun q a b => absurd b (by omega)) (Nat.lt_succ_self _))
theorem kx_4_0 : x_code k_P 4 0 = some (.aload_n 1, 1) := by decide +kernel
theorem kx_4_1 : x_code k_P 4 1 = some (.iload_n 3, 1) := by decide +kernel
theorem kx_4_2 : x_code k_P 4 2 = some (.invokevirtual 71, 3) := by decide +kernel
theorem kp_4_71 : x_pool k_P 4 71 = (2, 44, 1) := by decide +kernel
theorem kx_4_5 : x_code k_P 4 5 = some (.istore 5, 2) := by decide +kernel
theorem km_4_5 : 5 < x_maxL k_P 4 := by decide +kernel
theorem kx_4_7 : x_code k_P 4 7 = some (.iconst 0, 1) := by decide +kernel
theorem kx_4_8 : x_code k_P 4 8 = some (.istore 6, 2) := by decide +kernel
theorem km_4_6 : 6 < x_maxL k_P 4 := by decide +kernel
theorem kx_4_10 : x_code k_P 4 10 = some (.iload 6, 2) := by decide +kernel
theorem kx_4_12 : x_code k_P 4 12 = some (.iload 4, 2) := by decide +kernel
theorem kx_4_14 : x_code k_P 4 14 = some (.if_icmp .ge 88, 3) := by decide +kernel
theorem kx_4_102 : x_code k_P 4 102 = some (.aload_n 0, 1) := by decide +kernel
theorem kx_4_103 : x_code k_P 4 103 = some (.iload 4, 2) := by decide +kernel
theorem kx_4_105 : x_code k_P 4 105 = some (.putfield 18, 3) := by decide +kernel
theorem kp_4_18 : x_pool k_P 4 18 = (1, 0, 2) := by decide +kernel
theorem kf_0_2 : (x_cls k_P 0)[2]? = some 0 := by decide +kernel
theorem kx_4_108 : x_code k_P 4 108 = some (.return_, 1) := by decide +kernel
theorem kq_4 : x_retk k_P 4 = 0 := by decide +kernel
theorem kx_4_17 : x_code k_P 4 17 = some (.iload 6, 2) := by decide +kernel
theorem kx_4_19 : x_code k_P 4 19 = some (.bipush 12, 2) := by decide +kernel
theorem kx_4_21 : x_code k_P 4 21 = some (.if_icmp .ge 81, 3) := by decide +kernel
theorem kx_4_24 : x_code k_P 4 24 = some (.aload_n 0, 1) := by decide +kernel
theorem kx_4_25 : x_code k_P 4 25 = some (.aload_n 1, 1) := by decide +kernel
theorem kx_4_26 : x_code k_P 4 26 = some (.aload_n 2, 1) := by decide +kernel
theorem kx_4_27 : x_code k_P 4 27 = some (.iload_n 3, 1) := by decide +kernel
theorem kx_4_28 : x_code k_P 4 28 = some (.iload 6, 2) := by decide +kernel
theorem kx_4_30 : x_code k_P 4 30 = some (.iload 5, 2) := by decide +kernel
theorem kx_4_32 : x_code k_P 4 32 = some (.invokevirtual 59, 3) := by decide +kernel
theorem kp_4_59 : x_pool k_P 4 59 = (2, 6, 5) := by decide +kernel
theorem ki_6 : x_mci k_P 6 = 0 := by decide +kernel
theorem kcl_6 : x_maxL k_P 6 ≤ 60 ∧ 6 ≤ x_maxL k_P 6 := by decide +kernel
theorem kx_4_35 : x_code k_P 4 35 = some (.aload_n 0, 1) := by decide +kernel
theorem kx_4_36 : x_code k_P 4 36 = some (.getfield 9, 3) := by decide +kernel
theorem kp_4_9 : x_pool k_P 4 9 = (1, 0, 0) := by decide +kernel
theorem kx_4_39 : x_code k_P 4 39 = some (.iload 6, 2) := by decide +kernel
theorem kx_4_41 : x_code k_P 4 41 = some (.bipush 8, 2) := by decide +kernel
theorem kx_4_43 : x_code k_P 4 43 = some (.imul, 1) := by decide +kernel
theorem kx_4_44 : x_code k_P 4 44 = some (.iload 5, 2) := by decide +kernel
theorem kx_4_46 : x_code k_P 4 46 = some (.iadd, 1) := by decide +kernel
theorem kx_4_47 : x_code k_P 4 47 = some (.iaload, 1) := by decide +kernel
theorem kx_4_48 : x_code k_P 4 48 = some (.if_icmp .ne 7, 3) := by decide +kernel
theorem kx_4_55 : x_code k_P 4 55 = some (.iconst 0, 1) := by decide +kernel
theorem kx_4_51 : x_code k_P 4 51 = some (.iconst 1, 1) := by decide +kernel
theorem kx_4_52 : x_code k_P 4 52 = some (.goto 4, 3) := by decide +kernel
theorem kx_4_56 : x_code k_P 4 56 = some (.istore 7, 2) := by decide +kernel
theorem km_4_7 : 7 < x_maxL k_P 4 := by decide +kernel
theorem kx_4_58 : x_code k_P 4 58 = some (.aload_n 0, 1) := by decide +kernel
theorem kx_4_59 : x_code k_P 4 59 = some (.getfield 15, 3) := by decide +kernel
theorem kp_4_15 : x_pool k_P 4 15 = (1, 0, 1) := by decide +kernel
theorem kf_0_1 : (x_cls k_P 0)[1]? = some 12 := by decide +kernel
theorem kx_4_62 : x_code k_P 4 62 = some (.iload 6, 2) := by decide +kernel
theorem kx_4_64 : x_code k_P 4 64 = some (.iload 7, 2) := by decide +kernel
theorem kx_4_66 : x_code k_P 4 66 = some (.ifCond .eq 7, 3) := by decide +kernel
theorem kx_4_73 : x_code k_P 4 73 = some (.iconst 1, 1) := by decide +kernel
theorem kx_4_69 : x_code k_P 4 69 = some (.iconst 0, 1) := by decide +kernel
theorem kx_4_70 : x_code k_P 4 70 = some (.goto 4, 3) := by decide +kernel
theorem kx_4_74 : x_code k_P 4 74 = some (.iastore, 1) := by decide +kernel
theorem kx_4_75 : x_code k_P 4 75 = some (.iload 7, 2) := by decide +kernel
theorem kx_4_77 : x_code k_P 4 77 = some (.ifCond .eq 8, 3) := by decide +kernel
theorem kx_4_85 : x_code k_P 4 85 = some (.aload_n 2, 1) := by decide +kernel
theorem kx_4_86 : x_code k_P 4 86 = some (.getfield 43, 3) := by decide +kernel
theorem kp_4_43 : x_pool k_P 4 43 = (1, 8, 0) := by decide +kernel
theorem kx_4_89 : x_code k_P 4 89 = some (.iconst 2, 1) := by decide +kernel
theorem kx_4_90 : x_code k_P 4 90 = some (.iload 6, 2) := by decide +kernel
theorem kx_4_92 : x_code k_P 4 92 = some (.imul, 1) := by decide +kernel
theorem kx_4_93 : x_code k_P 4 93 = some (.iaload, 1) := by decide +kernel
theorem kx_4_94 : x_code k_P 4 94 = some (.istore 5, 2) := by decide +kernel
theorem kx_4_96 : x_code k_P 4 96 = some (.iinc 6 1, 3) := by decide +kernel
theorem kx_4_99 : x_code k_P 4 99 = some (.goto (-89), 3) := by decide +kernel
theorem kx_4_80 : x_code k_P 4 80 = some (.iload 5, 2) := by decide +kernel
theorem kx_4_82 : x_code k_P 4 82 = some (.goto 12, 3) := by decide +kernel
def fS_4_l10 : List (Nat × Nat) := [(51, 2), (53, 99999)]
def fS_4_m : List (Nat × Nat) := [(51, 2), (53, 99999)]
def fS_4_j48 : List (Nat × Nat) := []
def fS_4_j66 : List (Nat × Nat) := []
theorem m_4 {xs : Nat → Int} {Ln d : Nat} {T : List cK} {M : cM} (hT : TT T) (hI : Rng M) {t : Nat} (ht : t = 8 ∨ t = 25) (h70 : M 7 0 = ((t : Nat) : Int)) {person rows : Int} (p0 : 0 ≤ person ∧ person ≤ 7) (p1 : 0 ≤ rows ∧ rows ≤ 12) (p2 : 2 * rows ≤ M 1 1) (p3 : ∀ q : Int, 0 ≤ q → 2 * q < M 1 1 → 0 ≤ M 2 (2 * q).toNat ∧ M 2 (2 * q).toNat ≤ 7) : cC k_P xs Ln (d + 4) 4 [rf 51, rf 7, rf 1, (0, person), (0, rows)] (T, M) (qV T M fS_4_m (fun M1 => True)) := by
  show cP k_P xs Ln (d + 4) 4 0 [(0, rf 51), (1, rf 7), (2, rf 1), (3, (0, person)), (4, (0, rows))] [] (T, M) _
  have hFm : Fr fS_4_m M M := Fr.refl
  refine s_aload_n kx_4_0 rfl ?_
  refine s_iload_n kx_4_1 rfl ?_
  refine s_callV2 (k := 7) (s1 := 2) (s2 := 0) (as := [(0, person)]) (rest := []) kx_4_2 kp_4_71 (Or.inl rfl) rfl (tk_7 hT) ki_44 kcl_44 rfl rfl (by decide) (m_44 (d := d + 3) (chair := person) hT hI (by omega)) (kF (fun v1 v1p => ?_))
  refine s_istore kx_4_5 km_4_5 rfl ?_
  refine s_iconst (v := 0) kx_4_7 (by decide) ?_
  refine s_istore kx_4_8 km_4_6 rfl ?_
  have key5 : ∀ n6 : Nat, ∀ (x5_2 x6_3 : Int), ∀ M4 : cM, Rng M4 → Fr fS_4_m M M4 → Fr fS_4_l10 M M4 → (0 ≤ x5_2) → (x5_2 ≤ 7) → (0 ≤ x6_3) → (2147483647 - x6_3).toNat < n6 → cP k_P xs Ln (d + 4) 4 10 [(0, rf 51), (1, rf 7), (2, rf 1), (3, (0, person)), (4, (0, rows)), (5, (0, x5_2)), (6, (0, x6_3))] [] (T, M4) (qV T M fS_4_m (fun M1 => True)) := by
    intro n6
    induction n6 with
    | zero => intro x5_2 x6_3 M4 hI4 hFm4 fl4 i7 i8 i9 hm10; exact absurd hm10 (Nat.not_lt_zero _)
    | succ n6 ih11 =>
      intro x5_2 x6_3 M4 hI4 hFm4 fl4 i7 i8 i9 hm10
      refine s_iload kx_4_10 rfl ?_
      refine s_iload kx_4_12 rfl ?_
      refine s_icmp_ge (t := 102) kx_4_14 (by decide) (fun hc12 => ?_) (fun hc12 => ?_)
      · refine s_aload_n kx_4_102 rfl ?_
        refine s_iload kx_4_103 rfl ?_
        refine r_put (k := 51) (f := 2) kx_4_105 kp_4_18 (tk_51 hT) kf_0_2 rfl (by decide) (by decide) hI4 (ru_51_2 (by omega) (by omega)) (fun M13 hI13 u13 => ?_)
        have hFm13 := hFm4.up u13 rfl
        have hFl1013 := fl4.up u13 rfl
        exact s_vret kx_4_108 kq_4 ⟨_, rfl, rfl, hI13, hFm13, trivial⟩
      · refine s_iload kx_4_17 rfl ?_
        refine s_bipush (v := 12) kx_4_19 (by decide) ?_
        refine s_icmp_ge (t := 102) kx_4_21 (by decide) (fun hc14 => absurd hc14 (by omega)) (fun hc14 => ?_)
        refine s_aload_n kx_4_24 rfl ?_
        refine s_aload_n kx_4_25 rfl ?_
        refine s_aload_n kx_4_26 rfl ?_
        refine s_iload_n kx_4_27 rfl ?_
        refine s_iload kx_4_28 rfl ?_
        refine s_iload kx_4_30 rfl ?_
        refine s_callV2 (k := 51) (s1 := 6) (s2 := 0) (as := [(0, x5_2), (0, x6_3), (0, person), rf 1, rf 7]) (rest := []) kx_4_32 kp_4_59 (Or.inl rfl) rfl (tk_51 hT) ki_6 kcl_6 rfl rfl (by decide) (m_6 (d := d) (person := person) (k := x6_3) (chairRoom := x5_2) hT hI4 ht ((fl4 7 0 rfl).trans h70) (by omega) (by omega) (by omega)) (kF (fun v15 v15p => ?_))
        refine s_aload_n kx_4_35 rfl ?_
        refine r_getR (k := 51) (f := 0) (k2 := 52) kx_4_36 kp_4_9 (tk_51 hT) kf_0_0 (by decide) (rq_51_0 hI4) ?_
        refine s_iload kx_4_39 rfl ?_
        refine s_bipush (v := 8) kx_4_41 (by decide) ?_
        refine r_mul kx_4_43 ⟨by omega, by omega⟩ ?_
        refine s_iload kx_4_44 rfl ?_
        refine r_add kx_4_46 ⟨by omega, by omega⟩ ?_
        refine r_aldU (k := 52) kx_4_47 (tk_52 hT) ⟨by omega, by omega⟩ (fun v16 v16e => ?_)
        have jn21 : ∀ (y20 : Int), (0 ≤ y20) → (y20 ≤ 1) → cP k_P xs Ln (d + 4) 4 56 [(0, rf 51), (1, rf 7), (2, rf 1), (3, (0, person)), (4, (0, rows)), (5, (0, x5_2)), (6, (0, x6_3))] [(0, y20)] (T, M4) (qV T M fS_4_m (fun M1 => True)) := by
          intro y20 a22 a23
          refine s_istore kx_4_56 km_4_7 rfl ?_
          refine s_aload_n kx_4_58 rfl ?_
          refine r_getR (k := 51) (f := 1) (k2 := 53) kx_4_59 kp_4_15 (tk_51 hT) kf_0_1 (by decide) (rq_51_1 hI4) ?_
          refine s_iload kx_4_62 rfl ?_
          refine s_iload kx_4_64 rfl ?_
          have jn28 : ∀ (y27 : Int), (0 ≤ y27) → (y27 ≤ 1) → cP k_P xs Ln (d + 4) 4 74 [(0, rf 51), (1, rf 7), (2, rf 1), (3, (0, person)), (4, (0, rows)), (5, (0, x5_2)), (6, (0, x6_3)), (7, (0, y20))] [(0, y27), (0, x6_3), rf 53] (T, M4) (qV T M fS_4_m (fun M1 => True)) := by
            intro y27 a29 a30
            refine r_ast (k := 53) kx_4_74 (tk_53 hT) ⟨by omega, by omega⟩ hI4 ru_53 (fun M31 hI31 u31 => ?_)
            have hFm31 := hFm4.up u31 rfl
            have hFl1031 := fl4.up u31 rfl
            refine s_iload kx_4_75 rfl ?_
            refine s_if_eq (t := 85) kx_4_77 (by decide) (fun hc32 => ?_) (fun hc32 => ?_)
            · refine s_aload_n kx_4_85 rfl ?_
              refine r_getR (k := 1) (f := 0) (k2 := 2) kx_4_86 kp_4_43 (tk_1 hT) kf_8_0 (by decide) (rq_1_0 hI31) ?_
              refine s_iconst (v := 2) kx_4_89 (by decide) ?_
              refine s_iload kx_4_90 rfl ?_
              refine r_mul kx_4_92 ⟨by omega, by omega⟩ ?_
              refine r_ald (k := 2) kx_4_93 (tk_2 hT) ⟨by omega, by omega⟩ (rg_2 hI31) (fun v33 v33e v33a v33b => ?_)
              have hb34 := p3 x6_3 (by omega) (by omega)
              have he35 : M31 2 (2 * x6_3).toNat = M 2 (2 * x6_3).toNat := ((u31.2 2 _ (by omega)).trans (fl4 2 _ rfl))
              refine s_istore kx_4_94 km_4_5 rfl ?_
              refine r_iinc kx_4_96 rfl km_4_6 (by decide) ⟨by omega, by omega⟩ rfl ?_
              refine s_goto (t := 10) kx_4_99 (by decide) ?_
              exact cP.wk (lS1 rfl (lS1 rfl (lS1 rfl (lS1 rfl (lS1 rfl (lS1 rfl (lS1 rfl lS0))))))) (ih11 v33 (x6_3 + 1) M31 hI31 hFm31 hFl1031 (by omega) (by omega) (by omega) (by omega))
            · refine s_iload kx_4_80 rfl ?_
              refine s_goto (t := 94) kx_4_82 (by decide) ?_
              have hb36 := p3 x6_3 (by omega) (by omega)
              have he37 : M31 2 (2 * x6_3).toNat = M 2 (2 * x6_3).toNat := ((u31.2 2 _ (by omega)).trans (fl4 2 _ rfl))
              refine s_istore kx_4_94 km_4_5 rfl ?_
              refine r_iinc kx_4_96 rfl km_4_6 (by decide) ⟨by omega, by omega⟩ rfl ?_
              refine s_goto (t := 10) kx_4_99 (by decide) ?_
              exact cP.wk (lS1 rfl (lS1 rfl (lS1 rfl (lS1 rfl (lS1 rfl (lS1 rfl (lS1 rfl lS0))))))) (ih11 x5_2 (x6_3 + 1) M31 hI31 hFm31 hFl1031 (by omega) (by omega) (by omega) (by omega))
          refine s_if_eq (t := 73) kx_4_66 (by decide) (fun hc24 => ?_) (fun hc24 => ?_)
          · have hJ25 : Fr fS_4_j66 M4 M4 := Fr.refl
            refine s_iconst (v := 1) kx_4_73 (by decide) ?_
            exact cP.wk (lS1 rfl (lS1 rfl (lS1 rfl (lS1 rfl (lS1 rfl (lS1 rfl (lS1 rfl (lS1 rfl lS0)))))))) (jn28 1 (by omega) (by omega))
          · have hJ26 : Fr fS_4_j66 M4 M4 := Fr.refl
            refine s_iconst (v := 0) kx_4_69 (by decide) ?_
            refine s_goto (t := 74) kx_4_70 (by decide) ?_
            exact cP.wk (lS1 rfl (lS1 rfl (lS1 rfl (lS1 rfl (lS1 rfl (lS1 rfl (lS1 rfl (lS1 rfl lS0)))))))) (jn28 0 (by omega) (by omega))
        refine s_icmp_ne (t := 55) kx_4_48 (by decide) (fun hc17 => ?_) (fun hc17 => ?_)
        · have hJ18 : Fr fS_4_j48 M4 M4 := Fr.refl
          refine s_iconst (v := 0) kx_4_55 (by decide) ?_
          exact cP.wk (lS1 rfl (lS1 rfl (lS1 rfl (lS1 rfl (lS1 rfl (lS1 rfl (lS1 rfl lS0))))))) (jn21 0 (by omega) (by omega))
        · have hJ19 : Fr fS_4_j48 M4 M4 := Fr.refl
          refine s_iconst (v := 1) kx_4_51 (by decide) ?_
          refine s_goto (t := 56) kx_4_52 (by decide) ?_
          exact cP.wk (lS1 rfl (lS1 rfl (lS1 rfl (lS1 rfl (lS1 rfl (lS1 rfl (lS1 rfl lS0))))))) (jn21 1 (by omega) (by omega))
  exact cP.wk (lS1 rfl (lS1 rfl (lS1 rfl (lS1 rfl (lS1 rfl (lS1 rfl (lS1 rfl lS0))))))) (key5 _ v1 0 M hI hFm Fr.refl (by omega) (by omega) (by omega) (Nat.lt_succ_self _))
theorem kx_3_0 : x_code k_P 3 0 = some (.aload_n 2, 1) := by decide +kernel
theorem kx_3_1 : x_code k_P 3 1 = some (.getfield 22, 3) := by decide +kernel
theorem kp_3_22 : x_pool k_P 3 22 = (1, 8, 1) := by decide +kernel
theorem kx_3_4 : x_code k_P 3 4 = some (.iconst 2, 1) := by decide +kernel
theorem kx_3_5 : x_code k_P 3 5 = some (.idiv, 1) := by decide +kernel
theorem kx_3_6 : x_code k_P 3 6 = some (.istore 4, 2) := by decide +kernel
theorem km_3_4 : 4 < x_maxL k_P 3 := by decide +kernel
theorem kx_3_8 : x_code k_P 3 8 = some (.aload_n 0, 1) := by decide +kernel
theorem kx_3_9 : x_code k_P 3 9 = some (.getfield 9, 3) := by decide +kernel
theorem kp_3_9 : x_pool k_P 3 9 = (1, 0, 0) := by decide +kernel
theorem kx_3_12 : x_code k_P 3 12 = some (.iconst 0, 1) := by decide +kernel
theorem kx_3_13 : x_code k_P 3 13 = some (.invokestatic 50, 3) := by decide +kernel
theorem kp_3_50 : x_pool k_P 3 50 = (6, 301, 2) := by decide +kernel
theorem kx_3_16 : x_code k_P 3 16 = some (.iload 4, 2) := by decide +kernel
theorem kx_3_18 : x_code k_P 3 18 = some (.iconst 1, 1) := by decide +kernel
theorem kx_3_19 : x_code k_P 3 19 = some (.isub, 1) := by decide +kernel
theorem kx_3_20 : x_code k_P 3 20 = some (.istore 5, 2) := by decide +kernel
theorem km_3_5 : 5 < x_maxL k_P 3 := by decide +kernel
theorem kx_3_22 : x_code k_P 3 22 = some (.iload 5, 2) := by decide +kernel
theorem kx_3_24 : x_code k_P 3 24 = some (.ifCond .lt 76, 3) := by decide +kernel
theorem kx_3_100 : x_code k_P 3 100 = some (.aload_n 0, 1) := by decide +kernel
theorem kx_3_101 : x_code k_P 3 101 = some (.getfield 9, 3) := by decide +kernel
theorem kx_3_104 : x_code k_P 3 104 = some (.aload_n 1, 1) := by decide +kernel
theorem kx_3_105 : x_code k_P 3 105 = some (.iload_n 3, 1) := by decide +kernel
theorem kx_3_106 : x_code k_P 3 106 = some (.invokevirtual 71, 3) := by decide +kernel
theorem kp_3_71 : x_pool k_P 3 71 = (2, 44, 1) := by decide +kernel
theorem kx_3_109 : x_code k_P 3 109 = some (.iaload, 1) := by decide +kernel
theorem kx_3_110 : x_code k_P 3 110 = some (.istore 5, 2) := by decide +kernel
theorem kx_3_112 : x_code k_P 3 112 = some (.aload_n 0, 1) := by decide +kernel
theorem kx_3_113 : x_code k_P 3 113 = some (.iconst 0, 1) := by decide +kernel
theorem kx_3_114 : x_code k_P 3 114 = some (.putfield 18, 3) := by decide +kernel
theorem kp_3_18 : x_pool k_P 3 18 = (1, 0, 2) := by decide +kernel
theorem kx_3_117 : x_code k_P 3 117 = some (.iload 5, 2) := by decide +kernel
theorem kx_3_119 : x_code k_P 3 119 = some (.ldc 74, 2) := by decide +kernel
theorem kp_3_74 : x_pool k_P 3 74 = (7, 0, 1000000000) := by decide +kernel
theorem kx_3_121 : x_code k_P 3 121 = some (.if_icmp .lt 5, 3) := by decide +kernel
theorem kx_3_126 : x_code k_P 3 126 = some (.aload_n 0, 1) := by decide +kernel
theorem kx_3_127 : x_code k_P 3 127 = some (.aload_n 1, 1) := by decide +kernel
theorem kx_3_128 : x_code k_P 3 128 = some (.aload_n 2, 1) := by decide +kernel
theorem kx_3_129 : x_code k_P 3 129 = some (.iload_n 3, 1) := by decide +kernel
theorem kx_3_130 : x_code k_P 3 130 = some (.iload 4, 2) := by decide +kernel
theorem kx_3_132 : x_code k_P 3 132 = some (.invokevirtual 75, 3) := by decide +kernel
theorem kp_3_75 : x_pool k_P 3 75 = (2, 4, 4) := by decide +kernel
theorem ki_4 : x_mci k_P 4 = 0 := by decide +kernel
theorem kcl_4 : x_maxL k_P 4 ≤ 60 ∧ 5 ≤ x_maxL k_P 4 := by decide +kernel
theorem kx_3_135 : x_code k_P 3 135 = some (.iload 5, 2) := by decide +kernel
theorem kx_3_137 : x_code k_P 3 137 = some (.ireturn, 1) := by decide +kernel
theorem kq_3 : x_retk k_P 3 = 1 := by decide +kernel
theorem kx_3_124 : x_code k_P 3 124 = some (.iconst (-1), 1) := by decide +kernel
theorem kx_3_125 : x_code k_P 3 125 = some (.ireturn, 1) := by decide +kernel
theorem kx_3_27 : x_code k_P 3 27 = some (.iconst 0, 1) := by decide +kernel
theorem kx_3_28 : x_code k_P 3 28 = some (.istore 6, 2) := by decide +kernel
theorem km_3_6 : 6 < x_maxL k_P 3 := by decide +kernel
theorem kx_3_30 : x_code k_P 3 30 = some (.iload 6, 2) := by decide +kernel
theorem kx_3_32 : x_code k_P 3 32 = some (.aload_n 1, 1) := by decide +kernel
theorem kx_3_33 : x_code k_P 3 33 = some (.getfield 27, 3) := by decide +kernel
theorem kp_3_27 : x_pool k_P 3 27 = (1, 5, 0) := by decide +kernel
theorem kx_3_36 : x_code k_P 3 36 = some (.getfield 56, 3) := by decide +kernel
theorem kp_3_56 : x_pool k_P 3 56 = (1, 9, 0) := by decide +kernel
theorem kx_3_39 : x_code k_P 3 39 = some (.if_icmp .ge 55, 3) := by decide +kernel
theorem kx_3_94 : x_code k_P 3 94 = some (.iinc 5 (-1), 3) := by decide +kernel
theorem kx_3_97 : x_code k_P 3 97 = some (.goto (-75), 3) := by decide +kernel
theorem kx_3_42 : x_code k_P 3 42 = some (.aload_n 0, 1) := by decide +kernel
theorem kx_3_43 : x_code k_P 3 43 = some (.aload_n 1, 1) := by decide +kernel
theorem kx_3_44 : x_code k_P 3 44 = some (.aload_n 2, 1) := by decide +kernel
theorem kx_3_45 : x_code k_P 3 45 = some (.iload_n 3, 1) := by decide +kernel
theorem kx_3_46 : x_code k_P 3 46 = some (.iload 5, 2) := by decide +kernel
theorem kx_3_48 : x_code k_P 3 48 = some (.iload 6, 2) := by decide +kernel
theorem kx_3_50 : x_code k_P 3 50 = some (.invokevirtual 59, 3) := by decide +kernel
theorem kp_3_59 : x_pool k_P 3 59 = (2, 6, 5) := by decide +kernel
theorem kx_3_53 : x_code k_P 3 53 = some (.istore 7, 2) := by decide +kernel
theorem km_3_7 : 7 < x_maxL k_P 3 := by decide +kernel
theorem kx_3_55 : x_code k_P 3 55 = some (.aload_n 0, 1) := by decide +kernel
theorem kx_3_56 : x_code k_P 3 56 = some (.aload_n 1, 1) := by decide +kernel
theorem kx_3_57 : x_code k_P 3 57 = some (.aload_n 2, 1) := by decide +kernel
theorem kx_3_58 : x_code k_P 3 58 = some (.iload_n 3, 1) := by decide +kernel
theorem kx_3_59 : x_code k_P 3 59 = some (.iload 5, 2) := by decide +kernel
theorem kx_3_61 : x_code k_P 3 61 = some (.iload 6, 2) := by decide +kernel
theorem kx_3_63 : x_code k_P 3 63 = some (.invokevirtual 63, 3) := by decide +kernel
theorem kp_3_63 : x_pool k_P 3 63 = (2, 7, 5) := by decide +kernel
theorem ki_7 : x_mci k_P 7 = 0 := by decide +kernel
theorem kcl_7 : x_maxL k_P 7 ≤ 60 ∧ 6 ≤ x_maxL k_P 7 := by decide +kernel
theorem kx_3_66 : x_code k_P 3 66 = some (.istore 8, 2) := by decide +kernel
theorem km_3_8 : 8 < x_maxL k_P 3 := by decide +kernel
theorem kx_3_68 : x_code k_P 3 68 = some (.aload_n 0, 1) := by decide +kernel
theorem kx_3_69 : x_code k_P 3 69 = some (.getfield 9, 3) := by decide +kernel
theorem kx_3_72 : x_code k_P 3 72 = some (.iload 5, 2) := by decide +kernel
theorem kx_3_74 : x_code k_P 3 74 = some (.bipush 8, 2) := by decide +kernel
theorem kx_3_76 : x_code k_P 3 76 = some (.imul, 1) := by decide +kernel
theorem kx_3_77 : x_code k_P 3 77 = some (.iload 6, 2) := by decide +kernel
theorem kx_3_79 : x_code k_P 3 79 = some (.iadd, 1) := by decide +kernel
theorem kx_3_80 : x_code k_P 3 80 = some (.iload 7, 2) := by decide +kernel
theorem kx_3_82 : x_code k_P 3 82 = some (.iload 8, 2) := by decide +kernel
theorem kx_3_84 : x_code k_P 3 84 = some (.invokestatic 66, 3) := by decide +kernel
theorem kp_3_66 : x_pool k_P 3 66 = (6, 299, 2) := by decide +kernel
theorem kx_3_87 : x_code k_P 3 87 = some (.iastore, 1) := by decide +kernel
theorem kx_3_88 : x_code k_P 3 88 = some (.iinc 6 1, 3) := by decide +kernel
theorem kx_3_91 : x_code k_P 3 91 = some (.goto (-61), 3) := by decide +kernel
def fS_3_l22 : List (Nat × Nat) := [(20, 99999), (23, 99999), (37, 99999), (40, 99999), (43, 99999), (51, 2), (52, 99999), (53, 99999)]
def fS_3_l30 : List (Nat × Nat) := [(20, 99999), (23, 99999), (37, 99999), (40, 99999), (43, 99999), (52, 99999)]
def fS_3_m : List (Nat × Nat) := [(20, 99999), (23, 99999), (37, 99999), (40, 99999), (43, 99999), (51, 2), (52, 99999), (53, 99999)]
theorem m_3 {xs : Nat → Int} {Ln d : Nat} {T : List cK} {M : cM} (hT : TT T) (hI : Rng M) {t : Nat} (ht : t = 8 ∨ t = 25) (h70 : M 7 0 = ((t : Nat) : Int)) (hN : Fm T M) {person : Int} (p0 : 0 ≤ person ∧ person ≤ 7) (p1 : 2 ≤ M 1 1) (p2 : M 1 1 ≤ 24) (p3 : ∀ q : Int, 0 ≤ q → 2 * q < M 1 1 → 0 ≤ M 2 (2 * q).toNat ∧ M 2 (2 * q).toNat ≤ 7) : cC k_P xs Ln (d + 6) 3 [rf 51, rf 7, rf 1, (0, person)] (T, M) (qW T M fS_3_m 0 (fun v M1 => True)) := by
  show cP k_P xs Ln (d + 6) 3 0 [(0, rf 51), (1, rf 7), (2, rf 1), (3, (0, person))] [] (T, M) _
  have hFm : Fr fS_3_m M M := Fr.refl
  refine s_aload_n kx_3_0 rfl ?_
  refine r_getI (k := 1) (f := 1) kx_3_1 kp_3_22 (tk_1 hT) kf_8_1 (fun _ => rfl) (rg_1_1 hI) (fun v1 v1e v1a v1b => ?_)
  refine s_iconst (v := 2) kx_3_4 (by decide) ?_
  refine r_idiv kx_3_5 (by omega) (by omega) (by omega) (by omega) ?_
  refine s_istore kx_3_6 km_3_4 rfl ?_
  refine s_aload_n kx_3_8 rfl ?_
  refine r_getR (k := 51) (f := 0) (k2 := 52) kx_3_9 kp_3_9 (tk_51 hT) kf_0_0 (by decide) (rq_51_0 hI) ?_
  refine s_iconst (v := 0) kx_3_12 (by decide) ?_
  refine s_callS2 (s1 := 2) (s2 := 0) (as := [(0, 0), rf 52]) (rest := []) kx_3_13 kp_3_50 rfl kcl_301 rfl rfl (by decide) (m_301 (d := d + 5) (val := 0) hT hI (k := 52) (n := 104) (tk_52 hT) (by decide) (fun _ => ru_52)) (kV (fun M3 hI3 fr3 v2p => ?_))
  have hFm3 := hFm.call fr3 rfl
  refine s_iload kx_3_16 rfl ?_
  refine s_iconst (v := 1) kx_3_18 (by decide) ?_
  refine r_sub kx_3_19 ⟨by omega, by omega⟩ ?_
  refine s_istore kx_3_20 km_3_5 rfl ?_
  have key6 : ∀ n7 : Nat, ∀ (x5_4 : Int), ∀ M5 : cM, Rng M5 → Fr fS_3_m M M5 → Fr fS_3_l22 M3 M5 → ((-1) ≤ x5_4) → (x5_4 ≤ 11) → (x5_4 + 2147483648).toNat < n7 → cP k_P xs Ln (d + 6) 3 22 [(0, rf 51), (1, rf 7), (2, rf 1), (3, (0, person)), (4, (0, (v1 / 2))), (5, (0, x5_4))] [] (T, M5) (qW T M fS_3_m 0 (fun v M1 => True)) := by
    intro n7
    induction n7 with
    | zero => intro x5_4 M5 hI5 hFm5 fl5 i8 i9 hm10; exact absurd hm10 (Nat.not_lt_zero _)
    | succ n7 ih11 =>
      intro x5_4 M5 hI5 hFm5 fl5 i8 i9 hm10
      refine s_iload kx_3_22 rfl ?_
      refine s_if_lt (t := 100) kx_3_24 (by decide) (fun hc12 => ?_) (fun hc12 => ?_)
      · refine s_aload_n kx_3_100 rfl ?_
        refine r_getR (k := 51) (f := 0) (k2 := 52) kx_3_101 kp_3_9 (tk_51 hT) kf_0_0 (by decide) (rq_51_0 hI5) ?_
        refine s_aload_n kx_3_104 rfl ?_
        refine s_iload_n kx_3_105 rfl ?_
        refine s_callV2 (k := 7) (s1 := 2) (s2 := 1) (as := [(0, person)]) (rest := [rf 52]) kx_3_106 kp_3_71 (Or.inl rfl) rfl (tk_7 hT) ki_44 kcl_44 rfl rfl (by decide) (m_44 (d := d + 5) (chair := person) hT hI5 (by omega)) (kF (fun v13 v13p => ?_))
        refine r_aldU (k := 52) kx_3_109 (tk_52 hT) ⟨by omega, by omega⟩ (fun v14 v14e => ?_)
        refine s_istore kx_3_110 km_3_5 rfl ?_
        refine s_aload_n kx_3_112 rfl ?_
        refine s_iconst (v := 0) kx_3_113 (by decide) ?_
        refine r_put (k := 51) (f := 2) kx_3_114 kp_3_18 (tk_51 hT) kf_0_2 rfl (by decide) (by decide) hI5 (ru_51_2 (by omega) (by omega)) (fun M15 hI15 u15 => ?_)
        have hFm15 := hFm5.up u15 rfl
        have hFl2215 := fl5.up u15 rfl
        refine s_iload kx_3_117 rfl ?_
        refine s_ldc kx_3_119 kp_3_74 ?_
        refine s_icmp_lt (t := 126) kx_3_121 (by decide) (fun hc16 => ?_) (fun hc16 => ?_)
        · refine s_aload_n kx_3_126 rfl ?_
          refine s_aload_n kx_3_127 rfl ?_
          refine s_aload_n kx_3_128 rfl ?_
          refine s_iload_n kx_3_129 rfl ?_
          refine s_iload kx_3_130 rfl ?_
          have he17 : M15 1 1 = M 1 1 := ((u15.2 1 1 (by omega)).trans ((fl5 1 1 rfl).trans (fr3 1 1 rfl)))
          refine s_callV2 (k := 51) (s1 := 5) (s2 := 0) (as := [(0, (v1 / 2)), (0, person), rf 1, rf 7]) (rest := []) kx_3_132 kp_3_75 (Or.inl rfl) rfl (tk_51 hT) ki_4 kcl_4 rfl rfl (by decide) (m_4 (d := d + 1) (person := person) (rows := (v1 / 2)) hT hI15 ht ((u15.2 7 0 (by omega)).trans ((fl5 7 0 rfl).trans ((fr3 7 0 rfl).trans h70))) (by omega) (by omega) (by omega) (fun q a b => by rw [show M15 2 (2 * q).toNat = M 2 (2 * q).toNat from ((u15.2 2 _ (by omega)).trans ((fl5 2 _ rfl).trans (fr3 2 _ rfl)))]; exact p3 q a (by omega))) (kV (fun M19 hI19 fr19 v18p => ?_))
          have hFm19 := hFm15.call fr19 rfl
          have hFl2219 := hFl2215.call fr19 rfl
          refine s_iload kx_3_135 rfl ?_
          exact s_iret kx_3_137 (Or.inl kq_3) ⟨_, _, rfl, rfl, hI19, hFm19, trivial⟩
        · refine s_iconst (v := (-1)) kx_3_124 (by decide) ?_
          exact s_iret kx_3_125 (Or.inl kq_3) ⟨_, _, rfl, rfl, hI15, hFm15, trivial⟩
      · refine s_iconst (v := 0) kx_3_27 (by decide) ?_
        refine s_istore kx_3_28 km_3_6 rfl ?_
        have key22 : ∀ n23 : Nat, ∀ (x6_20 : Int), ∀ M21 : cM, Rng M21 → Fr fS_3_m M M21 → Fr fS_3_l22 M3 M21 → Fr fS_3_l30 M5 M21 → (0 ≤ x6_20) → (2147483647 - x6_20).toNat < n23 → cP k_P xs Ln (d + 6) 3 30 [(0, rf 51), (1, rf 7), (2, rf 1), (3, (0, person)), (4, (0, (v1 / 2))), (5, (0, x5_4)), (6, (0, x6_20))] [] (T, M21) (qW T M fS_3_m 0 (fun v M1 => True)) := by
          intro n23
          induction n23 with
          | zero => intro x6_20 M21 hI21 hFm21 hFl2221 fl21 i24 hm25; exact absurd hm25 (Nat.not_lt_zero _)
          | succ n23 ih26 =>
            intro x6_20 M21 hI21 hFm21 hFl2221 fl21 i24 hm25
            refine s_iload kx_3_30 rfl ?_
            refine s_aload_n kx_3_32 rfl ?_
            refine r_getR (k := 7) (f := 0) (k2 := t) kx_3_33 kp_3_27 (tk_7 hT) kf_5_0 (by decide) ((fl21 7 0 rfl).trans ((fl5 7 0 rfl).trans ((fr3 7 0 rfl).trans h70))) ?_
            refine r_getI (k := t) (f := 0) kx_3_36 kp_3_56 (tkt_0 hT ht) kf_9_0 (fun _ => rfl) (rgt_0_0 hI21 ht) (fun v27 v27e v27a v27b => ?_)
            have v27z : M t 0 = v27 := (((fl21 t 0 (by rcases ht with rfl | rfl <;> rfl)).trans ((fl5 t 0 (by rcases ht with rfl | rfl <;> rfl)).trans (fr3 t 0 (by rcases ht with rfl | rfl <;> rfl))))).symm.trans v27e
            refine s_icmp_ge (t := 94) kx_3_39 (by decide) (fun hc28 => ?_) (fun hc28 => ?_)
            · refine r_iinc kx_3_94 rfl km_3_5 (by decide) ⟨by omega, by omega⟩ rfl ?_
              refine s_goto (t := 22) kx_3_97 (by decide) ?_
              exact cP.wk (lS1 rfl (lS1 rfl (lS1 rfl (lS1 rfl (lS1 rfl (lS1 rfl lS0)))))) (ih11 (x5_4 + (-1)) M21 hI21 hFm21 hFl2221 (by omega) (by omega) (by omega))
            · refine s_aload_n kx_3_42 rfl ?_
              refine s_aload_n kx_3_43 rfl ?_
              refine s_aload_n kx_3_44 rfl ?_
              refine s_iload_n kx_3_45 rfl ?_
              refine s_iload kx_3_46 rfl ?_
              refine s_iload kx_3_48 rfl ?_
              refine s_callV2 (k := 51) (s1 := 6) (s2 := 0) (as := [(0, x6_20), (0, x5_4), (0, person), rf 1, rf 7]) (rest := []) kx_3_50 kp_3_59 (Or.inl rfl) rfl (tk_51 hT) ki_6 kcl_6 rfl rfl (by decide) (m_6 (d := d + 2) (person := person) (k := x5_4) (chairRoom := x6_20) hT hI21 ht ((fl21 7 0 rfl).trans ((fl5 7 0 rfl).trans ((fr3 7 0 rfl).trans h70))) (by omega) (by omega) (by omega)) (kF (fun v29 v29p => ?_))
              refine s_istore kx_3_53 km_3_7 rfl ?_
              refine s_aload_n kx_3_55 rfl ?_
              refine s_aload_n kx_3_56 rfl ?_
              refine s_aload_n kx_3_57 rfl ?_
              refine s_iload_n kx_3_58 rfl ?_
              refine s_iload kx_3_59 rfl ?_
              refine s_iload kx_3_61 rfl ?_
              refine s_callV2 (k := 51) (s1 := 6) (s2 := 0) (as := [(0, x6_20), (0, x5_4), (0, person), rf 1, rf 7]) (rest := []) kx_3_63 kp_3_63 (Or.inl rfl) rfl (tk_51 hT) ki_7 kcl_7 rfl rfl (by decide) (m_7 (d := d) (person := person) (k := x5_4) (chairRoom := x6_20) hT hI21 ht ((fl21 7 0 rfl).trans ((fl5 7 0 rfl).trans ((fr3 7 0 rfl).trans h70))) (hN.fr hFm21 rfl) (by omega) (by omega) (by omega)) (kW (fun v30 M31 hI31 fr31 v30p => ?_))
              have hFm31 := hFm21.call fr31 rfl
              have hFl2231 := hFl2221.call fr31 rfl
              have hFl3031 := fl21.call fr31 rfl
              refine s_istore kx_3_66 km_3_8 rfl ?_
              refine s_aload_n kx_3_68 rfl ?_
              refine r_getR (k := 51) (f := 0) (k2 := 52) kx_3_69 kp_3_9 (tk_51 hT) kf_0_0 (by decide) (rq_51_0 hI31) ?_
              refine s_iload kx_3_72 rfl ?_
              refine s_bipush (v := 8) kx_3_74 (by decide) ?_
              refine r_mul kx_3_76 ⟨by omega, by omega⟩ ?_
              refine s_iload kx_3_77 rfl ?_
              refine r_add kx_3_79 ⟨by omega, by omega⟩ ?_
              refine s_iload kx_3_80 rfl ?_
              refine s_iload kx_3_82 rfl ?_
              refine s_callS2 (s1 := 2) (s2 := 2) (as := [(0, v30), (0, v29)]) (rest := [(0, ((x5_4 * 8) + x6_20)), rf 52]) kx_3_84 kp_3_66 rfl kcl_299 rfl rfl (by decide) (m_299 (d := d + 5) (a := v29) (b := v30) hT hI31) (kF (fun v32 v32p => ?_))
              refine r_ast (k := 52) kx_3_87 (tk_52 hT) ⟨by omega, by omega⟩ hI31 ru_52 (fun M33 hI33 u33 => ?_)
              have hFm33 := hFm31.up u33 rfl
              have hFl2233 := hFl2231.up u33 rfl
              have hFl3033 := hFl3031.up u33 rfl
              refine r_iinc kx_3_88 rfl km_3_6 (by decide) ⟨by omega, by omega⟩ rfl ?_
              refine s_goto (t := 30) kx_3_91 (by decide) ?_
              exact cP.wk (lS1 rfl (lS1 rfl (lS1 rfl (lS1 rfl (lS1 rfl (lS1 rfl (lS1 rfl lS0))))))) (ih26 (x6_20 + 1) M33 hI33 hFm33 hFl2233 hFl3033 (by omega) (by omega))
        exact cP.wk (lS1 rfl (lS1 rfl (lS1 rfl (lS1 rfl (lS1 rfl (lS1 rfl (lS1 rfl lS0))))))) (key22 _ 0 M5 hI5 hFm5 fl5 Fr.refl (by omega) (Nat.lt_succ_self _))
  exact cP.wk (lS1 rfl (lS1 rfl (lS1 rfl (lS1 rfl (lS1 rfl (lS1 rfl lS0)))))) (key6 _ ((v1 / 2) - 1) M3 hI3 hFm3 Fr.refl (by omega) (by omega) (Nat.lt_succ_self _))
