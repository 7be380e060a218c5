theorem kx_62_0 : x_code k_P 62 0 = some (.iload_n 2, 1) := by decide +kernel
theorem kx_62_1 : x_code k_P 62 1 = some (.iconst (-1), 1) := by decide +kernel
theorem kx_62_2 : x_code k_P 62 2 = some (.if_icmp .eq 16, 3) := by decide +kernel
theorem kx_62_18 : x_code k_P 62 18 = some (.iload_n 3, 1) := by decide +kernel
theorem kx_62_19 : x_code k_P 62 19 = some (.ireturn, 1) := by decide +kernel
theorem kq_62 : x_retk k_P 62 = 1 := by decide +kernel
theorem kx_62_5 : x_code k_P 62 5 = some (.aload_n 0, 1) := by decide +kernel
theorem kx_62_6 : x_code k_P 62 6 = some (.getfield 14, 3) := by decide +kernel
theorem kp_62_14 : x_pool k_P 62 14 = (1, 5, 0) := by decide +kernel
theorem kx_62_9 : x_code k_P 62 9 = some (.getfield 111, 3) := by decide +kernel
theorem kp_62_111 : x_pool k_P 62 111 = (1, 9, 14) := by decide +kernel
theorem kx_62_12 : x_code k_P 62 12 = some (.getfield 115, 3) := by decide +kernel
theorem kp_62_115 : x_pool k_P 62 115 = (1, 1, 2) := by decide +kernel
theorem kx_62_15 : x_code k_P 62 15 = some (.ifCond .ne 5, 3) := by decide +kernel
theorem kx_62_20 : x_code k_P 62 20 = some (.aload_n 0, 1) := by decide +kernel
theorem kx_62_21 : x_code k_P 62 21 = some (.iload_n 1, 1) := by decide +kernel
theorem kx_62_22 : x_code k_P 62 22 = some (.iload_n 2, 1) := by decide +kernel
theorem kx_62_23 : x_code k_P 62 23 = some (.iload_n 3, 1) := by decide +kernel
theorem kx_62_24 : x_code k_P 62 24 = some (.invokevirtual 118, 3) := by decide +kernel
theorem kp_62_118 : x_pool k_P 62 118 = (2, 63, 3) := by decide +kernel
theorem ki_63 : x_mci k_P 63 = 5 := by decide +kernel
theorem kcl_63 : x_maxL k_P 63 ≤ 60 ∧ 4 ≤ x_maxL k_P 63 := by decide +kernel
theorem kx_62_27 : x_code k_P 62 27 = some (.iload_n 3, 1) := by decide +kernel
theorem kx_62_28 : x_code k_P 62 28 = some (.aload_n 0, 1) := by decide +kernel
theorem kx_62_29 : x_code k_P 62 29 = some (.getfield 14, 3) := by decide +kernel
theorem kx_62_32 : x_code k_P 62 32 = some (.getfield 111, 3) := by decide +kernel
theorem kx_62_35 : x_code k_P 62 35 = some (.aload_n 0, 1) := by decide +kernel
theorem kx_62_36 : x_code k_P 62 36 = some (.getfield 27, 3) := by decide +kernel
theorem kp_62_27 : x_pool k_P 62 27 = (1, 5, 3) := by decide +kernel
theorem kx_62_39 : x_code k_P 62 39 = some (.invokevirtual 122, 3) := by decide +kernel
theorem kp_62_122 : x_pool k_P 62 122 = (2, 11, 1) := by decide +kernel
theorem ki_11 : x_mci k_P 11 = 1 := by decide +kernel
theorem kcl_11 : x_maxL k_P 11 ≤ 60 ∧ 2 ≤ x_maxL k_P 11 := by decide +kernel
theorem kx_62_42 : x_code k_P 62 42 = some (.iadd, 1) := by decide +kernel
theorem kx_62_43 : x_code k_P 62 43 = some (.ireturn, 1) := by decide +kernel
def fS_62_m : List (Nat × Nat) := [(20, 99999), (23, 99999), (37, 99999), (40, 99999), (43, 99999)]
theorem m_62 {xs : Nat → Int} {Ln d : Nat} {T : List cK} {M : cM} (hT : TT T) (hI : Rng M) {t : Nat} (ht : t = 8 ∨ t = 25) (h70 : M 7 0 = ((t : Nat) : Int)) (hN : Fm T M) {person chair wayMinutes : Int} (p0 : 0 ≤ person ∧ person ≤ 7) (p1 : (-1) ≤ chair ∧ chair ≤ 7) : cC k_P xs Ln (d + 4) 62 [rf 7, (0, person), (0, chair), (0, wayMinutes)] (T, M) (qW T M fS_62_m 0 (fun v M1 => True)) := by
  show cP k_P xs Ln (d + 4) 62 0 [(0, rf 7), (1, (0, person)), (2, (0, chair)), (3, (0, wayMinutes))] [] (T, M) _
  have hFm : Fr fS_62_m M M := Fr.refl
  refine s_iload_n kx_62_0 rfl ?_
  refine s_iconst (v := (-1)) kx_62_1 (by decide) ?_
  refine s_icmp_eq (t := 18) kx_62_2 (by decide) (fun hc1 => ?_) (fun hc1 => ?_)
  · refine s_iload_n kx_62_18 rfl ?_
    exact s_iret kx_62_19 (Or.inl kq_62) ⟨_, _, rfl, rfl, hI, hFm, trivial⟩
  · refine s_aload_n kx_62_5 rfl ?_
    refine r_getR (k := 7) (f := 0) (k2 := t) kx_62_6 kp_62_14 (tk_7 hT) kf_5_0 (by decide) h70 ?_
    refine r_getR (k := t) (f := 14) (k2 := (t + 11)) kx_62_9 kp_62_111 (tkt_0 hT ht) kf_9_14 (by decide) (rqt_14 hI ht) ?_
    refine r_getI (k := (t + 11)) (f := 2) kx_62_12 kp_62_115 (tkf_0 hT (fF_slow ht)) kf_1_2 (fun _ => rfl) (rgf_0_2 hI (fF_slow ht)) (fun v2 v2e v2a v2b => ?_)
    refine s_if_ne (t := 20) kx_62_15 (by decide) (fun hc3 => ?_) (fun hc3 => ?_)
    · refine s_aload_n kx_62_20 rfl ?_
      refine s_iload_n kx_62_21 rfl ?_
      refine s_iload_n kx_62_22 rfl ?_
      refine s_iload_n kx_62_23 rfl ?_
      refine s_callV2 (k := 7) (s1 := 4) (s2 := 0) (as := [(0, wayMinutes), (0, chair), (0, person)]) (rest := []) kx_62_24 kp_62_118 (Or.inl rfl) rfl (tk_7 hT) ki_63 kcl_63 rfl rfl (by decide) (m_63 (d := d + 2) (person := person) (chair := chair) (minutes := wayMinutes) hT hI ht h70 (by omega) (by omega)) (kV (fun M5 hI5 fr5 v4p => ?_))
      have hFm5 := hFm.call fr5 rfl
      refine s_iload_n kx_62_27 rfl ?_
      refine s_aload_n kx_62_28 rfl ?_
      refine r_getR (k := 7) (f := 0) (k2 := t) kx_62_29 kp_62_14 (tk_7 hT) kf_5_0 (by decide) ((fr5 7 0 rfl).trans h70) ?_
      refine r_getR (k := t) (f := 14) (k2 := (t + 11)) kx_62_32 kp_62_111 (tkt_0 hT ht) kf_9_14 (by decide) (rqt_14 hI5 ht) ?_
      refine s_aload_n kx_62_35 rfl ?_
      refine r_getR (k := 7) (f := 3) (k2 := 43) kx_62_36 kp_62_27 (tk_7 hT) kf_5_3 (by decide) (rq_7_3 hI5) ?_
      refine s_callV2 (k := (t + 11)) (s1 := 2) (s2 := 1) (as := [rf 43]) (rest := [(0, wayMinutes)]) kx_62_39 kp_62_122 (Or.inl rfl) rfl (tkf_0 hT (fF_slow ht)) ki_11 kcl_11 rfl rfl (by decide) (m_11 (d := d) hT hI5 (fF_slow ht) (hN.fr hFm5 rfl)) (kW (fun v6 M7 hI7 fr7 v6p => ?_))
      have hFm7 := hFm5.call fr7 rfl
      refine r_iaddR kx_62_42 (fun v8 v8a v8b => ?_)
      exact s_iret kx_62_43 (Or.inl kq_62) ⟨_, _, rfl, rfl, hI7, hFm7, trivial⟩
    · refine s_iload_n kx_62_18 rfl ?_
      exact s_iret kx_62_19 (Or.inl kq_62) ⟨_, _, rfl, rfl, hI, hFm, trivial⟩
theorem kx_61_0 : x_code k_P 61 0 = some (.aload_n 0, 1) := by decide +kernel
theorem kx_61_1 : x_code k_P 61 1 = some (.getfield 14, 3) := by decide +kernel
theorem kp_61_14 : x_pool k_P 61 14 = (1, 5, 0) := by decide +kernel
theorem kx_61_4 : x_code k_P 61 4 = some (.iload_n 1, 1) := by decide +kernel
theorem kx_61_5 : x_code k_P 61 5 = some (.invokevirtual 75, 3) := by decide +kernel
theorem kp_61_75 : x_pool k_P 61 75 = (2, 107, 1) := by decide +kernel
theorem kx_61_8 : x_code k_P 61 8 = some (.ifCond .eq 19, 3) := by decide +kernel
theorem kx_61_27 : x_code k_P 61 27 = some (.iconst (-1), 1) := by decide +kernel
theorem kx_61_28 : x_code k_P 61 28 = some (.ireturn, 1) := by decide +kernel
theorem kq_61 : x_retk k_P 61 = 1 := by decide +kernel
theorem kx_61_11 : x_code k_P 61 11 = some (.aload_n 0, 1) := by decide +kernel
theorem kx_61_12 : x_code k_P 61 12 = some (.getfield 14, 3) := by decide +kernel
theorem kx_61_15 : x_code k_P 61 15 = some (.aload_n 0, 1) := by decide +kernel
theorem kx_61_16 : x_code k_P 61 16 = some (.iload_n 1, 1) := by decide +kernel
theorem kx_61_17 : x_code k_P 61 17 = some (.invokevirtual 63, 3) := by decide +kernel
theorem kp_61_63 : x_pool k_P 61 63 = (2, 43, 1) := by decide +kernel
theorem kx_61_20 : x_code k_P 61 20 = some (.iload_n 2, 1) := by decide +kernel
theorem kx_61_21 : x_code k_P 61 21 = some (.invokevirtual 101, 3) := by decide +kernel
theorem kp_61_101 : x_pool k_P 61 101 = (2, 117, 2) := by decide +kernel
theorem kx_61_24 : x_code k_P 61 24 = some (.ifCond .ne 5, 3) := by decide +kernel
theorem kx_61_29 : x_code k_P 61 29 = some (.iload_n 3, 1) := by decide +kernel
theorem kx_61_30 : x_code k_P 61 30 = some (.iconst (-1), 1) := by decide +kernel
theorem kx_61_31 : x_code k_P 61 31 = some (.if_icmp .eq 15, 3) := by decide +kernel
theorem kx_61_46 : x_code k_P 61 46 = some (.aload_n 0, 1) := by decide +kernel
theorem kx_61_47 : x_code k_P 61 47 = some (.iload_n 1, 1) := by decide +kernel
theorem kx_61_48 : x_code k_P 61 48 = some (.iload_n 3, 1) := by decide +kernel
theorem kx_61_49 : x_code k_P 61 49 = some (.aload_n 0, 1) := by decide +kernel
theorem kx_61_50 : x_code k_P 61 50 = some (.getfield 14, 3) := by decide +kernel
theorem kx_61_53 : x_code k_P 61 53 = some (.aload_n 0, 1) := by decide +kernel
theorem kx_61_54 : x_code k_P 61 54 = some (.iload_n 1, 1) := by decide +kernel
theorem kx_61_55 : x_code k_P 61 55 = some (.invokevirtual 63, 3) := by decide +kernel
theorem kx_61_58 : x_code k_P 61 58 = some (.iload_n 2, 1) := by decide +kernel
theorem kx_61_59 : x_code k_P 61 59 = some (.invokevirtual 101, 3) := by decide +kernel
theorem kx_61_62 : x_code k_P 61 62 = some (.invokevirtual 107, 3) := by decide +kernel
theorem kp_61_107 : x_pool k_P 61 107 = (2, 62, 3) := by decide +kernel
theorem ki_62 : x_mci k_P 62 = 5 := by decide +kernel
theorem kcl_62 : x_maxL k_P 62 ≤ 60 ∧ 4 ≤ x_maxL k_P 62 := by decide +kernel
theorem kx_61_65 : x_code k_P 61 65 = some (.ireturn, 1) := by decide +kernel
theorem kx_61_34 : x_code k_P 61 34 = some (.aload_n 0, 1) := by decide +kernel
theorem kx_61_35 : x_code k_P 61 35 = some (.iload_n 1, 1) := by decide +kernel
theorem kx_61_36 : x_code k_P 61 36 = some (.iload_n 2, 1) := by decide +kernel
theorem kx_61_37 : x_code k_P 61 37 = some (.iload_n 3, 1) := by decide +kernel
theorem kx_61_38 : x_code k_P 61 38 = some (.invokevirtual 104, 3) := by decide +kernel
theorem kp_61_104 : x_pool k_P 61 104 = (2, 60, 3) := by decide +kernel
theorem ki_60 : x_mci k_P 60 = 5 := by decide +kernel
theorem kcl_60 : x_maxL k_P 60 ≤ 60 ∧ 4 ≤ x_maxL k_P 60 := by decide +kernel
theorem kx_61_41 : x_code k_P 61 41 = some (.ifCond .ne 5, 3) := by decide +kernel
theorem kx_61_44 : x_code k_P 61 44 = some (.iconst (-1), 1) := by decide +kernel
theorem kx_61_45 : x_code k_P 61 45 = some (.ireturn, 1) := by decide +kernel
def fS_61_m : List (Nat × Nat) := [(20, 99999), (23, 99999), (37, 99999), (40, 99999), (43, 99999)]
theorem m_61 {xs : Nat → Int} {Ln d : Nat} {T : List cK} {M : cM} (hT : TT T) (hI : Rng M) {t : Nat} (ht : t = 8 ∨ t = 25) (h70 : M 7 0 = ((t : Nat) : Int)) (hN : Fm T M) {person to chair : Int} : cC k_P xs Ln (d + 5) 61 [rf 7, (0, person), (0, to), (0, chair)] (T, M) (qW T M fS_61_m 0 (fun v M1 => v = -1 ∨ (0 ≤ person ∧ person ≤ 7 ∧ 0 ≤ to ∧ to ≤ 7 ∧ (chair = -1 ∨ 0 ≤ chair ∧ chair ≤ 7)))) := by
  show cP k_P xs Ln (d + 5) 61 0 [(0, rf 7), (1, (0, person)), (2, (0, to)), (3, (0, chair))] [] (T, M) _
  have hFm : Fr fS_61_m M M := Fr.refl
  refine s_aload_n kx_61_0 rfl ?_
  refine r_getR (k := 7) (f := 0) (k2 := t) kx_61_1 kp_61_14 (tk_7 hT) kf_5_0 (by decide) h70 ?_
  refine s_iload_n kx_61_4 rfl ?_
  refine s_callV2 (k := t) (s1 := 2) (s2 := 0) (as := [(0, person)]) (rest := []) kx_61_5 kp_61_75 (Or.inl rfl) rfl (tkt_0 hT ht) ki_107 kcl_107 rfl rfl (by decide) (m_107 (d := d + 4) (person := person) hT hI ht) (kF (fun v1 v1p => ?_))
  refine s_if_eq (t := 27) kx_61_8 (by decide) (fun hc2 => ?_) (fun hc2 => ?_)
  · replace v1p := v1p.resolve_left (by omega)
    refine s_iconst (v := (-1)) kx_61_27 (by decide) ?_
    exact s_iret kx_61_28 (Or.inl kq_61) ⟨_, _, rfl, rfl, hI, hFm, (by omega)⟩
  · replace v1p := v1p.resolve_right (by omega)
    refine s_aload_n kx_61_11 rfl ?_
    refine r_getR (k := 7) (f := 0) (k2 := t) kx_61_12 kp_61_14 (tk_7 hT) kf_5_0 (by decide) h70 ?_
    refine s_aload_n kx_61_15 rfl ?_
    refine s_iload_n kx_61_16 rfl ?_
    refine s_callV2 (k := 7) (s1 := 2) (s2 := 1) (as := [(0, person)]) (rest := [rf t]) kx_61_17 kp_61_63 (Or.inl rfl) rfl (tk_7 hT) ki_43 kcl_43 rfl rfl (by decide) (m_43 (d := d + 4) (person := person) hT hI (by omega)) (kF (fun v3 v3p => ?_))
    refine s_iload_n kx_61_20 rfl ?_
    refine s_callV2 (k := t) (s1 := 3) (s2 := 0) (as := [(0, to), (0, v3)]) (rest := []) kx_61_21 kp_61_101 (Or.inl rfl) rfl (tkt_0 hT ht) ki_117 kcl_117 rfl rfl (by decide) (m_117 (d := d + 3) (a := v3) (b := to) hT hI ht) (kF (fun v4 v4p => ?_))
    refine s_if_ne (t := 29) kx_61_24 (by decide) (fun hc5 => ?_) (fun hc5 => ?_)
    · refine s_iload_n kx_61_29 rfl ?_
      refine s_iconst (v := (-1)) kx_61_30 (by decide) ?_
      refine s_icmp_eq (t := 46) kx_61_31 (by decide) (fun hc6 => ?_) (fun hc6 => ?_)
      · refine s_aload_n kx_61_46 rfl ?_
        refine s_iload_n kx_61_47 rfl ?_
        refine s_iload_n kx_61_48 rfl ?_
        refine s_aload_n kx_61_49 rfl ?_
        refine r_getR (k := 7) (f := 0) (k2 := t) kx_61_50 kp_61_14 (tk_7 hT) kf_5_0 (by decide) h70 ?_
        refine s_aload_n kx_61_53 rfl ?_
        refine s_iload_n kx_61_54 rfl ?_
        refine s_callV2 (k := 7) (s1 := 2) (s2 := 4) (as := [(0, person)]) (rest := [rf t, (0, chair), (0, person), rf 7]) kx_61_55 kp_61_63 (Or.inl rfl) rfl (tk_7 hT) ki_43 kcl_43 rfl rfl (by decide) (m_43 (d := d + 4) (person := person) hT hI (by omega)) (kF (fun v7 v7p => ?_))
        refine s_iload_n kx_61_58 rfl ?_
        refine s_callV2 (k := t) (s1 := 3) (s2 := 3) (as := [(0, to), (0, v7)]) (rest := [(0, chair), (0, person), rf 7]) kx_61_59 kp_61_101 (Or.inl rfl) rfl (tkt_0 hT ht) ki_117 kcl_117 rfl rfl (by decide) (m_117 (d := d + 3) (a := v7) (b := to) hT hI ht) (kF (fun v8 v8p => ?_))
        refine s_callV2 (k := 7) (s1 := 4) (s2 := 0) (as := [(0, v8), (0, chair), (0, person)]) (rest := []) kx_61_62 kp_61_107 (Or.inl rfl) rfl (tk_7 hT) ki_62 kcl_62 rfl rfl (by decide) (m_62 (d := d) (person := person) (chair := chair) (wayMinutes := v8) hT hI ht h70 hN (by omega) (by omega)) (kW (fun v9 M10 hI10 fr10 v9p => ?_))
        have hFm10 := hFm.call fr10 rfl
        exact s_iret kx_61_65 (Or.inl kq_61) ⟨_, _, rfl, rfl, hI10, hFm10, (by omega)⟩
      · refine s_aload_n kx_61_34 rfl ?_
        refine s_iload_n kx_61_35 rfl ?_
        refine s_iload_n kx_61_36 rfl ?_
        refine s_iload_n kx_61_37 rfl ?_
        refine s_callV2 (k := 7) (s1 := 4) (s2 := 0) (as := [(0, chair), (0, to), (0, person)]) (rest := []) kx_61_38 kp_61_104 (Or.inl rfl) rfl (tk_7 hT) ki_60 kcl_60 rfl rfl (by decide) (m_60 (d := d + 1) (person := person) (to := to) (chair := chair) hT hI ht h70 (by omega)) (kF (fun v11 v11p => ?_))
        refine s_if_ne (t := 46) kx_61_41 (by decide) (fun hc12 => ?_) (fun hc12 => ?_)
        · replace v11p := v11p.resolve_right (by omega)
          refine s_aload_n kx_61_46 rfl ?_
          refine s_iload_n kx_61_47 rfl ?_
          refine s_iload_n kx_61_48 rfl ?_
          refine s_aload_n kx_61_49 rfl ?_
          refine r_getR (k := 7) (f := 0) (k2 := t) kx_61_50 kp_61_14 (tk_7 hT) kf_5_0 (by decide) h70 ?_
          refine s_aload_n kx_61_53 rfl ?_
          refine s_iload_n kx_61_54 rfl ?_
          refine s_callV2 (k := 7) (s1 := 2) (s2 := 4) (as := [(0, person)]) (rest := [rf t, (0, chair), (0, person), rf 7]) kx_61_55 kp_61_63 (Or.inl rfl) rfl (tk_7 hT) ki_43 kcl_43 rfl rfl (by decide) (m_43 (d := d + 4) (person := person) hT hI (by omega)) (kF (fun v13 v13p => ?_))
          refine s_iload_n kx_61_58 rfl ?_
          refine s_callV2 (k := t) (s1 := 3) (s2 := 3) (as := [(0, to), (0, v13)]) (rest := [(0, chair), (0, person), rf 7]) kx_61_59 kp_61_101 (Or.inl rfl) rfl (tkt_0 hT ht) ki_117 kcl_117 rfl rfl (by decide) (m_117 (d := d + 3) (a := v13) (b := to) hT hI ht) (kF (fun v14 v14p => ?_))
          refine s_callV2 (k := 7) (s1 := 4) (s2 := 0) (as := [(0, v14), (0, chair), (0, person)]) (rest := []) kx_61_62 kp_61_107 (Or.inl rfl) rfl (tk_7 hT) ki_62 kcl_62 rfl rfl (by decide) (m_62 (d := d) (person := person) (chair := chair) (wayMinutes := v14) hT hI ht h70 hN (by omega) (by omega)) (kW (fun v15 M16 hI16 fr16 v15p => ?_))
          have hFm16 := hFm.call fr16 rfl
          exact s_iret kx_61_65 (Or.inl kq_61) ⟨_, _, rfl, rfl, hI16, hFm16, (by omega)⟩
        · replace v11p := v11p.resolve_left (by omega)
          refine s_iconst (v := (-1)) kx_61_44 (by decide) ?_
          exact s_iret kx_61_45 (Or.inl kq_61) ⟨_, _, rfl, rfl, hI, hFm, (by omega)⟩
    · refine s_iconst (v := (-1)) kx_61_27 (by decide) ?_
      exact s_iret kx_61_28 (Or.inl kq_61) ⟨_, _, rfl, rfl, hI, hFm, (by omega)⟩
theorem kx_69_0 : x_code k_P 69 0 = some (.aload_n 0, 1) := by decide +kernel
theorem kx_69_1 : x_code k_P 69 1 = some (.iload_n 1, 1) := by decide +kernel
theorem kx_69_2 : x_code k_P 69 2 = some (.iload_n 2, 1) := by decide +kernel
theorem kx_69_3 : x_code k_P 69 3 = some (.invokevirtual 136, 3) := by decide +kernel
theorem kp_69_136 : x_pool k_P 69 136 = (2, 64, 2) := by decide +kernel
theorem kx_69_6 : x_code k_P 69 6 = some (.aload_n 0, 1) := by decide +kernel
theorem kx_69_7 : x_code k_P 69 7 = some (.iload_n 1, 1) := by decide +kernel
theorem kx_69_8 : x_code k_P 69 8 = some (.invokevirtual 43, 3) := by decide +kernel
theorem kp_69_43 : x_pool k_P 69 43 = (2, 58, 1) := by decide +kernel
theorem kx_69_11 : x_code k_P 69 11 = some (.ifCond .eq 4, 3) := by decide +kernel
theorem kx_69_15 : x_code k_P 69 15 = some (.aload_n 0, 1) := by decide +kernel
theorem kx_69_16 : x_code k_P 69 16 = some (.iload_n 1, 1) := by decide +kernel
theorem kx_69_17 : x_code k_P 69 17 = some (.iload_n 1, 1) := by decide +kernel
theorem kx_69_18 : x_code k_P 69 18 = some (.iload_n 2, 1) := by decide +kernel
theorem kx_69_19 : x_code k_P 69 19 = some (.invokevirtual 118, 3) := by decide +kernel
theorem kp_69_118 : x_pool k_P 69 118 = (2, 63, 3) := by decide +kernel
theorem kx_69_22 : x_code k_P 69 22 = some (.aload_n 0, 1) := by decide +kernel
theorem kx_69_23 : x_code k_P 69 23 = some (.getfield 14, 3) := by decide +kernel
theorem kp_69_14 : x_pool k_P 69 14 = (1, 5, 0) := by decide +kernel
theorem kx_69_26 : x_code k_P 69 26 = some (.getfield 150, 3) := by decide +kernel
theorem kp_69_150 : x_pool k_P 69 150 = (1, 9, 15) := by decide +kernel
theorem kx_69_29 : x_code k_P 69 29 = some (.getfield 115, 3) := by decide +kernel
theorem kp_69_115 : x_pool k_P 69 115 = (1, 1, 2) := by decide +kernel
theorem kx_69_32 : x_code k_P 69 32 = some (.ifCond .ne 7, 3) := by decide +kernel
theorem kx_69_39 : x_code k_P 69 39 = some (.aload_n 0, 1) := by decide +kernel
theorem kx_69_40 : x_code k_P 69 40 = some (.getfield 14, 3) := by decide +kernel
theorem kx_69_43 : x_code k_P 69 43 = some (.getfield 150, 3) := by decide +kernel
theorem kx_69_46 : x_code k_P 69 46 = some (.aload_n 0, 1) := by decide +kernel
theorem kx_69_47 : x_code k_P 69 47 = some (.getfield 27, 3) := by decide +kernel
theorem kp_69_27 : x_pool k_P 69 27 = (1, 5, 3) := by decide +kernel
theorem kx_69_50 : x_code k_P 69 50 = some (.invokevirtual 122, 3) := by decide +kernel
theorem kp_69_122 : x_pool k_P 69 122 = (2, 11, 1) := by decide +kernel
theorem kx_69_35 : x_code k_P 69 35 = some (.iload_n 2, 1) := by decide +kernel
theorem kx_69_36 : x_code k_P 69 36 = some (.goto 17, 3) := by decide +kernel
theorem kx_69_53 : x_code k_P 69 53 = some (.istore_n 3, 1) := by decide +kernel
theorem km_69_3 : 3 < x_maxL k_P 69 := by decide +kernel
theorem kx_69_54 : x_code k_P 69 54 = some (.aload_n 0, 1) := by decide +kernel
theorem kx_69_55 : x_code k_P 69 55 = some (.getfield 21, 3) := by decide +kernel
theorem kp_69_21 : x_pool k_P 69 21 = (1, 5, 2) := by decide +kernel
theorem kx_69_58 : x_code k_P 69 58 = some (.bipush 32, 2) := by decide +kernel
theorem kx_69_60 : x_code k_P 69 60 = some (.iload_n 1, 1) := by decide +kernel
theorem kx_69_61 : x_code k_P 69 61 = some (.iadd, 1) := by decide +kernel
theorem kx_69_62 : x_code k_P 69 62 = some (.ldc 132, 2) := by decide +kernel
theorem kp_69_132 : x_pool k_P 69 132 = (7, 0, 99999) := by decide +kernel
theorem kx_69_64 : x_code k_P 69 64 = some (.aload_n 0, 1) := by decide +kernel
theorem kx_69_65 : x_code k_P 69 65 = some (.iload_n 1, 1) := by decide +kernel
theorem kx_69_66 : x_code k_P 69 66 = some (.invokevirtual 60, 3) := by decide +kernel
theorem kp_69_60 : x_pool k_P 69 60 = (2, 47, 1) := by decide +kernel
theorem kx_69_69 : x_code k_P 69 69 = some (.iload_n 3, 1) := by decide +kernel
theorem kx_69_70 : x_code k_P 69 70 = some (.iadd, 1) := by decide +kernel
theorem kx_69_71 : x_code k_P 69 71 = some (.invokestatic 133, 3) := by decide +kernel
theorem kp_69_133 : x_pool k_P 69 133 = (6, 299, 2) := by decide +kernel
theorem kx_69_74 : x_code k_P 69 74 = some (.iastore, 1) := by decide +kernel
theorem kx_69_75 : x_code k_P 69 75 = some (.return_, 1) := by decide +kernel
theorem kq_69 : x_retk k_P 69 = 0 := by decide +kernel
theorem kx_69_14 : x_code k_P 69 14 = some (.return_, 1) := by decide +kernel
def fS_69_j32 : List (Nat × Nat) := [(20, 99999), (23, 99999), (37, 99999), (40, 99999)]
def fS_69_m : List (Nat × Nat) := [(20, 99999), (23, 99999), (37, 99999), (40, 99999), (42, 99999), (43, 99999)]
theorem m_69 {xs : Nat → Int} {Ln d : Nat} {T : List cK} {M : cM} (hT : TT T) (hI : Rng M) {t : Nat} (ht : t = 8 ∨ t = 25) (h70 : M 7 0 = ((t : Nat) : Int)) (hN : Fm T M) {person minutes : Int} (p0 : 0 ≤ person ∧ person ≤ 7) : cC k_P xs Ln (d + 4) 69 [rf 7, (0, person), (0, minutes)] (T, M) (qV T M fS_69_m (fun M1 => True)) := by
  show cP k_P xs Ln (d + 4) 69 0 [(0, rf 7), (1, (0, person)), (2, (0, minutes))] [] (T, M) _
  have hFm : Fr fS_69_m M M := Fr.refl
  refine s_aload_n kx_69_0 rfl ?_
  refine s_iload_n kx_69_1 rfl ?_
  refine s_iload_n kx_69_2 rfl ?_
  refine s_callV2 (k := 7) (s1 := 3) (s2 := 0) (as := [(0, minutes), (0, person)]) (rest := []) kx_69_3 kp_69_136 (Or.inl rfl) rfl (tk_7 hT) ki_64 kcl_64 rfl rfl (by decide) (m_64 (d := d + 2) (person := person) (minutes := minutes) hT hI (by omega)) (kV (fun M2 hI2 fr2 v1p => ?_))
  have hFm2 := hFm.call fr2 rfl
  refine s_aload_n kx_69_6 rfl ?_
  refine s_iload_n kx_69_7 rfl ?_
  refine s_callV2 (k := 7) (s1 := 2) (s2 := 0) (as := [(0, person)]) (rest := []) kx_69_8 kp_69_43 (Or.inl rfl) rfl (tk_7 hT) ki_58 kcl_58 rfl rfl (by decide) (m_58 (d := d + 1) (person := person) hT hI2 ht ((fr2 7 0 rfl).trans h70) (by omega)) (kF (fun v3 v3p => ?_))
  refine s_if_eq (t := 15) kx_69_11 (by decide) (fun hc4 => ?_) (fun hc4 => ?_)
  · refine s_aload_n kx_69_15 rfl ?_
    refine s_iload_n kx_69_16 rfl ?_
    refine s_iload_n kx_69_17 rfl ?_
    refine s_iload_n kx_69_18 rfl ?_
    refine s_callV2 (k := 7) (s1 := 4) (s2 := 0) (as := [(0, minutes), (0, person), (0, person)]) (rest := []) kx_69_19 kp_69_118 (Or.inl rfl) rfl (tk_7 hT) ki_63 kcl_63 rfl rfl (by decide) (m_63 (d := d + 2) (person := person) (chair := person) (minutes := minutes) hT hI2 ht ((fr2 7 0 rfl).trans h70) (by omega) (by omega)) (kV (fun M6 hI6 fr6 v5p => ?_))
    have hFm6 := hFm2.call fr6 rfl
    refine s_aload_n kx_69_22 rfl ?_
    refine r_getR (k := 7) (f := 0) (k2 := t) kx_69_23 kp_69_14 (tk_7 hT) kf_5_0 (by decide) ((fr6 7 0 rfl).trans ((fr2 7 0 rfl).trans h70)) ?_
    refine r_getR (k := t) (f := 15) (k2 := (t + 14)) kx_69_26 kp_69_150 (tkt_0 hT ht) kf_9_15 (by decide) (rqt_15 hI6 ht) ?_
    refine r_getI (k := (t + 14)) (f := 2) kx_69_29 kp_69_115 (tkf_0 hT (fF_stands ht)) kf_1_2 (fun _ => rfl) (rgf_0_2 hI6 (fF_stands ht)) (fun v7 v7e v7a v7b => ?_)
    have v7z : M (t + 14) 2 = v7 := (((fr6 (t + 14) 2 (by rcases ht with rfl | rfl <;> rfl)).trans (fr2 (t + 14) 2 (by rcases ht with rfl | rfl <;> rfl)))).symm.trans v7e
    have jn14 : ∀ (y13 : Int), ∀ M15 : cM, Rng M15 → Fr fS_69_j32 M6 M15 → Fr fS_69_m M M15 → cP k_P xs Ln (d + 4) 69 53 [(0, rf 7), (1, (0, person))] [(0, y13)] (T, M15) (qV T M fS_69_m (fun M1 => True)) := by
      intro y13 M15 hI15 fj15 hFm15
      refine s_istore_n kx_69_53 km_69_3 rfl ?_
      refine s_aload_n kx_69_54 rfl ?_
      refine r_getR (k := 7) (f := 2) (k2 := 42) kx_69_55 kp_69_21 (tk_7 hT) kf_5_2 (by decide) (rq_7_2 hI15) ?_
      refine s_bipush (v := 32) kx_69_58 (by decide) ?_
      refine s_iload_n kx_69_60 rfl ?_
      refine r_add kx_69_61 ⟨by omega, by omega⟩ ?_
      refine s_ldc kx_69_62 kp_69_132 ?_
      refine s_aload_n kx_69_64 rfl ?_
      refine s_iload_n kx_69_65 rfl ?_
      refine s_callV2 (k := 7) (s1 := 2) (s2 := 3) (as := [(0, person)]) (rest := [(0, 99999), (0, (32 + person)), rf 42]) kx_69_66 kp_69_60 (Or.inl rfl) rfl (tk_7 hT) ki_47 kcl_47 rfl rfl (by decide) (m_47 (d := d + 3) (person := person) hT hI15 (by omega)) (kF (fun v16 v16p => ?_))
      refine s_iload_n kx_69_69 rfl ?_
      refine r_iaddR kx_69_70 (fun v17 v17a v17b => ?_)
      refine s_callS2 (s1 := 2) (s2 := 2) (as := [(0, v17), (0, 99999)]) (rest := [(0, (32 + person)), rf 42]) kx_69_71 kp_69_133 rfl kcl_299 rfl rfl (by decide) (m_299 (d := d + 3) (a := 99999) (b := v17) hT hI15) (kF (fun v18 v18p => ?_))
      refine r_ast (k := 42) kx_69_74 (tk_42 hT) ⟨by omega, by omega⟩ hI15 (ru_42 (fun _ => by omega) (fun _ => by omega)) (fun M19 hI19 u19 => ?_)
      have hFm19 := hFm15.up u19 rfl
      exact s_vret kx_69_75 kq_69 ⟨_, rfl, rfl, hI19, hFm19, trivial⟩
    refine s_if_ne (t := 39) kx_69_32 (by decide) (fun hc8 => ?_) (fun hc8 => ?_)
    · have hJ9 : Fr fS_69_j32 M6 M6 := Fr.refl
      refine s_aload_n kx_69_39 rfl ?_
      refine r_getR (k := 7) (f := 0) (k2 := t) kx_69_40 kp_69_14 (tk_7 hT) kf_5_0 (by decide) ((fr6 7 0 rfl).trans ((fr2 7 0 rfl).trans h70)) ?_
      refine r_getR (k := t) (f := 15) (k2 := (t + 14)) kx_69_43 kp_69_150 (tkt_0 hT ht) kf_9_15 (by decide) (rqt_15 hI6 ht) ?_
      refine s_aload_n kx_69_46 rfl ?_
      refine r_getR (k := 7) (f := 3) (k2 := 43) kx_69_47 kp_69_27 (tk_7 hT) kf_5_3 (by decide) (rq_7_3 hI6) ?_
      refine s_callV2 (k := (t + 14)) (s1 := 2) (s2 := 0) (as := [rf 43]) (rest := []) kx_69_50 kp_69_122 (Or.inl rfl) rfl (tkf_0 hT (fF_stands ht)) ki_11 kcl_11 rfl rfl (by decide) (m_11 (d := d) hT hI6 (fF_stands ht) (hN.fr hFm6 rfl)) (kW (fun v10 M11 hI11 fr11 v10p => ?_))
      have hFm11 := hFm6.call fr11 rfl
      have hFj3211 := hJ9.call fr11 rfl
      exact cP.wk (lS1 rfl (lS1 rfl lS0)) (jn14 v10 M11 hI11 hFj3211 hFm11)
    · have hJ12 : Fr fS_69_j32 M6 M6 := Fr.refl
      refine s_iload_n kx_69_35 rfl ?_
      refine s_goto (t := 53) kx_69_36 (by decide) ?_
      exact cP.wk (lS1 rfl (lS1 rfl lS0)) (jn14 minutes M6 hI6 hJ12 hFm6)
  · exact s_vret kx_69_14 kq_69 ⟨_, rfl, rfl, hI2, hFm2, trivial⟩
theorem kx_72_0 : x_code k_P 72 0 = some (.iconst 0, 1) := by decide +kernel
theorem kx_72_1 : x_code k_P 72 1 = some (.istore_n 2, 1) := by decide +kernel
theorem km_72_2 : 2 < x_maxL k_P 72 := by decide +kernel
theorem kx_72_2 : x_code k_P 72 2 = some (.bipush 113, 2) := by decide +kernel
theorem kx_72_4 : x_code k_P 72 4 = some (.istore_n 3, 1) := by decide +kernel
theorem km_72_3 : 3 < x_maxL k_P 72 := by decide +kernel
theorem kx_72_5 : x_code k_P 72 5 = some (.iconst 0, 1) := by decide +kernel
theorem kx_72_6 : x_code k_P 72 6 = some (.istore 4, 2) := by decide +kernel
theorem km_72_4 : 4 < x_maxL k_P 72 := by decide +kernel
theorem kx_72_8 : x_code k_P 72 8 = some (.iload 4, 2) := by decide +kernel
theorem kx_72_10 : x_code k_P 72 10 = some (.aload_n 0, 1) := by decide +kernel
theorem kx_72_11 : x_code k_P 72 11 = some (.getfield 14, 3) := by decide +kernel
theorem kp_72_14 : x_pool k_P 72 14 = (1, 5, 0) := by decide +kernel
theorem kx_72_14 : x_code k_P 72 14 = some (.getfield 36, 3) := by decide +kernel
theorem kp_72_36 : x_pool k_P 72 36 = (1, 9, 1) := by decide +kernel
theorem kx_72_17 : x_code k_P 72 17 = some (.if_icmp .ge 51, 3) := by decide +kernel
theorem kx_72_68 : x_code k_P 72 68 = some (.aload_n 1, 1) := by decide +kernel
theorem kx_72_69 : x_code k_P 72 69 = some (.iload_n 2, 1) := by decide +kernel
theorem kx_72_70 : x_code k_P 72 70 = some (.iload_n 3, 1) := by decide +kernel
theorem kx_72_71 : x_code k_P 72 71 = some (.iastore, 1) := by decide +kernel
theorem kx_72_72 : x_code k_P 72 72 = some (.iload_n 2, 1) := by decide +kernel
theorem kx_72_73 : x_code k_P 72 73 = some (.iconst 1, 1) := by decide +kernel
theorem kx_72_74 : x_code k_P 72 74 = some (.iadd, 1) := by decide +kernel
theorem kx_72_75 : x_code k_P 72 75 = some (.ireturn, 1) := by decide +kernel
theorem kq_72 : x_retk k_P 72 = 1 := by decide +kernel
theorem kx_72_20 : x_code k_P 72 20 = some (.iconst 0, 1) := by decide +kernel
theorem kx_72_21 : x_code k_P 72 21 = some (.istore 5, 2) := by decide +kernel
theorem km_72_5 : 5 < x_maxL k_P 72 := by decide +kernel
theorem kx_72_23 : x_code k_P 72 23 = some (.iload 5, 2) := by decide +kernel
theorem kx_72_25 : x_code k_P 72 25 = some (.bipush 9, 2) := by decide +kernel
theorem kx_72_27 : x_code k_P 72 27 = some (.if_icmp .ge 35, 3) := by decide +kernel
theorem kx_72_62 : x_code k_P 72 62 = some (.iinc 4 1, 3) := by decide +kernel
theorem kx_72_65 : x_code k_P 72 65 = some (.goto (-57), 3) := by decide +kernel
theorem kx_72_30 : x_code k_P 72 30 = some (.aload_n 1, 1) := by decide +kernel
theorem kx_72_31 : x_code k_P 72 31 = some (.iload_n 2, 1) := by decide +kernel
theorem kx_72_32 : x_code k_P 72 32 = some (.aload_n 0, 1) := by decide +kernel
theorem kx_72_33 : x_code k_P 72 33 = some (.iload 4, 2) := by decide +kernel
theorem kx_72_35 : x_code k_P 72 35 = some (.iload 5, 2) := by decide +kernel
theorem kx_72_37 : x_code k_P 72 37 = some (.invokevirtual 156, 3) := by decide +kernel
theorem kp_72_156 : x_pool k_P 72 156 = (2, 73, 2) := by decide +kernel
theorem ki_73 : x_mci k_P 73 = 5 := by decide +kernel
theorem kcl_73 : x_maxL k_P 73 ≤ 60 ∧ 3 ≤ x_maxL k_P 73 := by decide +kernel
theorem kx_72_40 : x_code k_P 72 40 = some (.iastore, 1) := by decide +kernel
theorem kx_72_41 : x_code k_P 72 41 = some (.iconst 5, 1) := by decide +kernel
theorem kx_72_42 : x_code k_P 72 42 = some (.iload_n 3, 1) := by decide +kernel
theorem kx_72_43 : x_code k_P 72 43 = some (.imul, 1) := by decide +kernel
theorem kx_72_44 : x_code k_P 72 44 = some (.aload_n 1, 1) := by decide +kernel
theorem kx_72_45 : x_code k_P 72 45 = some (.iload_n 2, 1) := by decide +kernel
theorem kx_72_46 : x_code k_P 72 46 = some (.iaload, 1) := by decide +kernel
theorem kx_72_47 : x_code k_P 72 47 = some (.iadd, 1) := by decide +kernel
theorem kx_72_48 : x_code k_P 72 48 = some (.sipush 251, 3) := by decide +kernel
theorem kx_72_51 : x_code k_P 72 51 = some (.irem, 1) := by decide +kernel
theorem kx_72_52 : x_code k_P 72 52 = some (.istore_n 3, 1) := by decide +kernel
theorem kx_72_53 : x_code k_P 72 53 = some (.iinc 2 1, 3) := by decide +kernel
theorem kx_72_56 : x_code k_P 72 56 = some (.iinc 5 1, 3) := by decide +kernel
theorem kx_72_59 : x_code k_P 72 59 = some (.goto (-36), 3) := by decide +kernel
def fS_72_l23 : List (Nat × Nat) := [(62, 99999)]
def fS_72_l8 : List (Nat × Nat) := [(62, 99999)]
def fS_72_m : List (Nat × Nat) := [(62, 99999)]
theorem m_72 {xs : Nat → Int} {Ln d : Nat} {T : List cK} {M : cM} (hT : TT T) (hI : Rng M) {t : Nat} (ht : t = 8 ∨ t = 25) (h70 : M 7 0 = ((t : Nat) : Int)) : cC k_P xs Ln (d + 2) 72 [rf 7, rf 62] (T, M) (qW T M fS_72_m 0 (fun v M1 => 1 ≤ v ∧ v ≤ 73)) := by
  show cP k_P xs Ln (d + 2) 72 0 [(0, rf 7), (1, rf 62)] [] (T, M) _
  have hFm : Fr fS_72_m M M := Fr.refl
  refine s_iconst (v := 0) kx_72_0 (by decide) ?_
  refine s_istore_n kx_72_1 km_72_2 rfl ?_
  refine s_bipush (v := 113) kx_72_2 (by decide) ?_
  refine s_istore_n kx_72_4 km_72_3 rfl ?_
  refine s_iconst (v := 0) kx_72_5 (by decide) ?_
  refine s_istore kx_72_6 km_72_4 rfl ?_
  have key5 : ∀ n6 : Nat, ∀ (x2_1 x3_2 x4_3 : Int), ∀ M4 : cM, Rng M4 → Fr fS_72_m M M4 → Fr fS_72_l8 M M4 → (0 ≤ x2_1) → (x2_1 ≤ 72) → (0 ≤ x4_3) → (x2_1 = 9 * x4_3) → (x4_3 ≤ 8) → (2147483647 - x4_3).toNat < n6 → cP k_P xs Ln (d + 2) 72 8 [(0, rf 7), (1, rf 62), (2, (0, x2_1)), (3, (0, x3_2)), (4, (0, x4_3))] [] (T, M4) (qW T M fS_72_m 0 (fun v M1 => 1 ≤ v ∧ v ≤ 73)) := by
    intro n6
    induction n6 with
    | zero => intro x2_1 x3_2 x4_3 M4 hI4 hFm4 fl4 i7 i8 i9 i10 i11 hm12; exact absurd hm12 (Nat.not_lt_zero _)
    | succ n6 ih13 =>
      intro x2_1 x3_2 x4_3 M4 hI4 hFm4 fl4 i7 i8 i9 i10 i11 hm12
      refine s_iload kx_72_8 rfl ?_
      refine s_aload_n kx_72_10 rfl ?_
      refine r_getR (k := 7) (f := 0) (k2 := t) kx_72_11 kp_72_14 (tk_7 hT) kf_5_0 (by decide) ((fl4 7 0 rfl).trans h70) ?_
      refine r_getI (k := t) (f := 1) kx_72_14 kp_72_36 (tkt_0 hT ht) kf_9_1 (fun _ => rfl) (rgt_0_1 hI4 ht) (fun v14 v14e v14a v14b => ?_)
      have v14z : M t 1 = v14 := ((fl4 t 1 (by rcases ht with rfl | rfl <;> rfl))).symm.trans v14e
      refine s_icmp_ge (t := 68) kx_72_17 (by decide) (fun hc15 => ?_) (fun hc15 => ?_)
      · refine s_aload_n kx_72_68 rfl ?_
        refine s_iload_n kx_72_69 rfl ?_
        refine s_iload_n kx_72_70 rfl ?_
        refine r_ast (k := 62) kx_72_71 (tk_62 hT) ⟨by omega, by omega⟩ hI4 ru_62 (fun M16 hI16 u16 => ?_)
        have hFm16 := hFm4.up u16 rfl
        have hFl816 := fl4.up u16 rfl
        refine s_iload_n kx_72_72 rfl ?_
        refine s_iconst (v := 1) kx_72_73 (by decide) ?_
        refine r_add kx_72_74 ⟨by omega, by omega⟩ ?_
        exact s_iret kx_72_75 (Or.inl kq_72) ⟨_, _, rfl, rfl, hI16, hFm16, (by omega)⟩
      · refine s_iconst (v := 0) kx_72_20 (by decide) ?_
        refine s_istore kx_72_21 km_72_5 rfl ?_
        have key21 : ∀ n22 : Nat, ∀ (x2_17 x3_18 x5_19 : Int), ∀ M20 : cM, Rng M20 → Fr fS_72_m M M20 → Fr fS_72_l8 M M20 → Fr fS_72_l23 M4 M20 → (0 ≤ x2_17) → (x2_17 ≤ 72) → (0 ≤ x5_19) → (x2_17 = 9 * x4_3 + x5_19) → (x5_19 ≤ 9) → (2147483647 - x5_19).toNat < n22 → cP k_P xs Ln (d + 2) 72 23 [(0, rf 7), (1, rf 62), (2, (0, x2_17)), (3, (0, x3_18)), (4, (0, x4_3)), (5, (0, x5_19))] [] (T, M20) (qW T M fS_72_m 0 (fun v M1 => 1 ≤ v ∧ v ≤ 73)) := by
          intro n22
          induction n22 with
          | zero => intro x2_17 x3_18 x5_19 M20 hI20 hFm20 hFl820 fl20 i23 i24 i25 i26 i27 hm28; exact absurd hm28 (Nat.not_lt_zero _)
          | succ n22 ih29 =>
            intro x2_17 x3_18 x5_19 M20 hI20 hFm20 hFl820 fl20 i23 i24 i25 i26 i27 hm28
            refine s_iload kx_72_23 rfl ?_
            refine s_bipush (v := 9) kx_72_25 (by decide) ?_
            refine s_icmp_ge (t := 62) kx_72_27 (by decide) (fun hc30 => ?_) (fun hc30 => ?_)
            · refine r_iinc kx_72_62 rfl km_72_4 (by decide) ⟨by omega, by omega⟩ rfl ?_
              refine s_goto (t := 8) kx_72_65 (by decide) ?_
              exact cP.wk (lS1 rfl (lS1 rfl (lS1 rfl (lS1 rfl (lS1 rfl lS0))))) (ih13 x2_17 x3_18 (x4_3 + 1) M20 hI20 hFm20 hFl820 (by omega) (by omega) (by omega) (by omega) (by omega) (by omega))
            · refine s_aload_n kx_72_30 rfl ?_
              refine s_iload_n kx_72_31 rfl ?_
              refine s_aload_n kx_72_32 rfl ?_
              refine s_iload kx_72_33 rfl ?_
              refine s_iload kx_72_35 rfl ?_
              refine s_callV2 (k := 7) (s1 := 3) (s2 := 2) (as := [(0, x5_19), (0, x4_3)]) (rest := [(0, x2_17), rf 62]) kx_72_37 kp_72_156 (Or.inl rfl) rfl (tk_7 hT) ki_73 kcl_73 rfl rfl (by decide) (m_73 (d := d) (person := x4_3) (k := x5_19) hT hI20 (by omega)) (kF (fun v31 v31p => ?_))
              refine r_ast (k := 62) kx_72_40 (tk_62 hT) ⟨by omega, by omega⟩ hI20 ru_62 (fun M32 hI32 u32 => ?_)
              have hFm32 := hFm20.up u32 rfl
              have hFl832 := hFl820.up u32 rfl
              have hFl2332 := fl20.up u32 rfl
              refine s_iconst (v := 5) kx_72_41 (by decide) ?_
              refine s_iload_n kx_72_42 rfl ?_
              refine r_imulR kx_72_43 (fun v33 v33a v33b => ?_)
              refine s_aload_n kx_72_44 rfl ?_
              refine s_iload_n kx_72_45 rfl ?_
              refine r_aldK (k := 62) kx_72_46 (tk_62 hT) ⟨by omega, by omega⟩ u32.1 ?_
              refine r_iaddR kx_72_47 (fun v34 v34a v34b => ?_)
              refine s_sipush (v := 251) kx_72_48 (by decide) ?_
              refine r_iremR kx_72_51 (by omega) (fun v35 v35a v35b => ?_)
              refine s_istore_n kx_72_52 km_72_3 rfl ?_
              refine r_iinc kx_72_53 rfl km_72_2 (by decide) ⟨by omega, by omega⟩ rfl ?_
              refine r_iinc kx_72_56 rfl km_72_5 (by decide) ⟨by omega, by omega⟩ rfl ?_
              refine s_goto (t := 23) kx_72_59 (by decide) ?_
              exact cP.wk (lS1 rfl (lS1 rfl (lS1 rfl (lS1 rfl (lS1 rfl (lS1 rfl lS0)))))) (ih29 (x2_17 + 1) v35 (x5_19 + 1) M32 hI32 hFm32 hFl832 hFl2332 (by omega) (by omega) (by omega) (by omega) (by omega) (by omega))
        exact cP.wk (lS1 rfl (lS1 rfl (lS1 rfl (lS1 rfl (lS1 rfl (lS1 rfl lS0)))))) (key21 _ x2_1 x3_2 0 M4 hI4 hFm4 fl4 Fr.refl (by omega) (by omega) (by omega) (by omega) (by omega) (Nat.lt_succ_self _))
  exact cP.wk (lS1 rfl (lS1 rfl (lS1 rfl (lS1 rfl (lS1 rfl lS0))))) (key5 _ 0 113 0 M hI hFm Fr.refl (by omega) (by omega) (by omega) (by omega) (by omega) (Nat.lt_succ_self _))
theorem kx_76_0 : x_code k_P 76 0 = some (.aload_n 0, 1) := by decide +kernel
theorem kx_76_1 : x_code k_P 76 1 = some (.getfield 164, 3) := by decide +kernel
theorem kp_76_164 : x_pool k_P 76 164 = (1, 8, 0) := by decide +kernel
theorem kf_8_0 : (x_cls k_P 8)[0]? = some 12 := by decide +kernel
theorem kx_76_4 : x_code k_P 76 4 = some (.iload_n 1, 1) := by decide +kernel
theorem kx_76_5 : x_code k_P 76 5 = some (.iaload, 1) := by decide +kernel
theorem kx_76_6 : x_code k_P 76 6 = some (.bipush 16, 2) := by decide +kernel
theorem kx_76_8 : x_code k_P 76 8 = some (.ishl, 1) := by decide +kernel
theorem kx_76_9 : x_code k_P 76 9 = some (.aload_n 0, 1) := by decide +kernel
theorem kx_76_10 : x_code k_P 76 10 = some (.getfield 164, 3) := by decide +kernel
theorem kx_76_13 : x_code k_P 76 13 = some (.iload_n 1, 1) := by decide +kernel
theorem kx_76_14 : x_code k_P 76 14 = some (.iconst 1, 1) := by decide +kernel
theorem kx_76_15 : x_code k_P 76 15 = some (.iadd, 1) := by decide +kernel
theorem kx_76_16 : x_code k_P 76 16 = some (.iaload, 1) := by decide +kernel
theorem kx_76_17 : x_code k_P 76 17 = some (.bipush 8, 2) := by decide +kernel
theorem kx_76_19 : x_code k_P 76 19 = some (.ishl, 1) := by decide +kernel
theorem kx_76_20 : x_code k_P 76 20 = some (.ior, 1) := by decide +kernel
theorem kx_76_21 : x_code k_P 76 21 = some (.aload_n 0, 1) := by decide +kernel
theorem kx_76_22 : x_code k_P 76 22 = some (.getfield 164, 3) := by decide +kernel
theorem kx_76_25 : x_code k_P 76 25 = some (.iload_n 1, 1) := by decide +kernel
theorem kx_76_26 : x_code k_P 76 26 = some (.iconst 2, 1) := by decide +kernel
theorem kx_76_27 : x_code k_P 76 27 = some (.iadd, 1) := by decide +kernel
theorem kx_76_28 : x_code k_P 76 28 = some (.iaload, 1) := by decide +kernel
theorem kx_76_29 : x_code k_P 76 29 = some (.ior, 1) := by decide +kernel
theorem kx_76_30 : x_code k_P 76 30 = some (.ireturn, 1) := by decide +kernel
theorem kq_76 : x_retk k_P 76 = 1 := by decide +kernel
theorem m_76 {xs : Nat → Int} {Ln d : Nat} {T : List cK} {M : cM} (hT : TT T) (hI : Rng M) {first : Int} (p0 : 0 ≤ first ∧ first ≤ 1597) : cC k_P xs Ln (d + 0) 76 [rf 1, (0, first)] (T, M) (qF T M 0 (fun v => True)) := by
  show cP k_P xs Ln (d + 0) 76 0 [(0, rf 1), (1, (0, first))] [] (T, M) _
  refine s_aload_n kx_76_0 rfl ?_
  refine r_getR (k := 1) (f := 0) (k2 := 2) kx_76_1 kp_76_164 (tk_1 hT) kf_8_0 (by decide) (rq_1_0 hI) ?_
  refine s_iload_n kx_76_4 rfl ?_
  refine r_ald (k := 2) kx_76_5 (tk_2 hT) ⟨by omega, by omega⟩ (rg_2 hI) (fun v1 v1e v1a v1b => ?_)
  refine s_bipush (v := 16) kx_76_6 (by decide) ?_
  refine r_ishlR kx_76_8 (fun v2 v2a v2b => ?_)
  refine s_aload_n kx_76_9 rfl ?_
  refine r_getR (k := 1) (f := 0) (k2 := 2) kx_76_10 kp_76_164 (tk_1 hT) kf_8_0 (by decide) (rq_1_0 hI) ?_
  refine s_iload_n kx_76_13 rfl ?_
  refine s_iconst (v := 1) kx_76_14 (by decide) ?_
  refine r_add kx_76_15 ⟨by omega, by omega⟩ ?_
  refine r_ald (k := 2) kx_76_16 (tk_2 hT) ⟨by omega, by omega⟩ (rg_2 hI) (fun v3 v3e v3a v3b => ?_)
  refine s_bipush (v := 8) kx_76_17 (by decide) ?_
  refine r_ishlR kx_76_19 (fun v4 v4a v4b => ?_)
  refine r_iorR kx_76_20 (fun v5 v5a v5b => ?_)
  refine s_aload_n kx_76_21 rfl ?_
  refine r_getR (k := 1) (f := 0) (k2 := 2) kx_76_22 kp_76_164 (tk_1 hT) kf_8_0 (by decide) (rq_1_0 hI) ?_
  refine s_iload_n kx_76_25 rfl ?_
  refine s_iconst (v := 2) kx_76_26 (by decide) ?_
  refine r_add kx_76_27 ⟨by omega, by omega⟩ ?_
  refine r_ald (k := 2) kx_76_28 (tk_2 hT) ⟨by omega, by omega⟩ (rg_2 hI) (fun v6 v6e v6a v6b => ?_)
  refine r_iorR kx_76_29 (fun v7 v7a v7b => ?_)
  exact s_iret kx_76_30 (Or.inl kq_76) ⟨_, rfl, rfl, trivial⟩
theorem kx_75_0 : x_code k_P 75 0 = some (.iconst 0, 1) := by decide +kernel
theorem kx_75_1 : x_code k_P 75 1 = some (.istore_n 2, 1) := by decide +kernel
theorem km_75_2 : 2 < x_maxL k_P 75 := by decide +kernel
theorem kx_75_2 : x_code k_P 75 2 = some (.iload_n 2, 1) := by decide +kernel
theorem kx_75_3 : x_code k_P 75 3 = some (.aload_n 0, 1) := by decide +kernel
theorem kx_75_4 : x_code k_P 75 4 = some (.getfield 14, 3) := by decide +kernel
theorem kp_75_14 : x_pool k_P 75 14 = (1, 5, 0) := by decide +kernel
theorem kx_75_7 : x_code k_P 75 7 = some (.getfield 175, 3) := by decide +kernel
theorem kp_75_175 : x_pool k_P 75 175 = (1, 9, 0) := by decide +kernel
theorem kx_75_10 : x_code k_P 75 10 = some (.if_icmp .ge 80, 3) := by decide +kernel
theorem kx_75_90 : x_code k_P 75 90 = some (.iconst 1, 1) := by decide +kernel
theorem kx_75_91 : x_code k_P 75 91 = some (.ireturn, 1) := by decide +kernel
theorem kq_75 : x_retk k_P 75 = 2 := by decide +kernel
theorem kx_75_13 : x_code k_P 75 13 = some (.iconst 0, 1) := by decide +kernel
theorem kx_75_14 : x_code k_P 75 14 = some (.istore_n 3, 1) := by decide +kernel
theorem km_75_3 : 3 < x_maxL k_P 75 := by decide +kernel
theorem kx_75_15 : x_code k_P 75 15 = some (.iconst 0, 1) := by decide +kernel
theorem kx_75_16 : x_code k_P 75 16 = some (.istore 4, 2) := by decide +kernel
theorem km_75_4 : 4 < x_maxL k_P 75 := by decide +kernel
theorem kx_75_18 : x_code k_P 75 18 = some (.iload 4, 2) := by decide +kernel
theorem kx_75_20 : x_code k_P 75 20 = some (.aload_n 0, 1) := by decide +kernel
theorem kx_75_21 : x_code k_P 75 21 = some (.getfield 14, 3) := by decide +kernel
theorem kx_75_24 : x_code k_P 75 24 = some (.getfield 36, 3) := by decide +kernel
theorem kp_75_36 : x_pool k_P 75 36 = (1, 9, 1) := by decide +kernel
theorem kx_75_27 : x_code k_P 75 27 = some (.if_icmp .ge 42, 3) := by decide +kernel
theorem kx_75_69 : x_code k_P 75 69 = some (.iload_n 3, 1) := by decide +kernel
theorem kx_75_70 : x_code k_P 75 70 = some (.aload_n 0, 1) := by decide +kernel
theorem kx_75_71 : x_code k_P 75 71 = some (.getfield 14, 3) := by decide +kernel
theorem kx_75_74 : x_code k_P 75 74 = some (.getfield 87, 3) := by decide +kernel
theorem kp_75_87 : x_pool k_P 75 87 = (1, 9, 6) := by decide +kernel
theorem kx_75_77 : x_code k_P 75 77 = some (.iload_n 2, 1) := by decide +kernel
theorem kx_75_78 : x_code k_P 75 78 = some (.iaload, 1) := by decide +kernel
theorem kx_75_79 : x_code k_P 75 79 = some (.if_icmp .le 5, 3) := by decide +kernel
theorem kx_75_84 : x_code k_P 75 84 = some (.iinc 2 1, 3) := by decide +kernel
theorem kx_75_87 : x_code k_P 75 87 = some (.goto (-85), 3) := by decide +kernel
theorem kx_75_82 : x_code k_P 75 82 = some (.iconst 0, 1) := by decide +kernel
theorem kx_75_83 : x_code k_P 75 83 = some (.ireturn, 1) := by decide +kernel
theorem kx_75_30 : x_code k_P 75 30 = some (.iload_n 3, 1) := by decide +kernel
theorem kx_75_31 : x_code k_P 75 31 = some (.aload_n 1, 1) := by decide +kernel
theorem kx_75_32 : x_code k_P 75 32 = some (.getfield 164, 3) := by decide +kernel
theorem kp_75_164 : x_pool k_P 75 164 = (1, 8, 0) := by decide +kernel
theorem kx_75_35 : x_code k_P 75 35 = some (.iload 4, 2) := by decide +kernel
theorem kx_75_37 : x_code k_P 75 37 = some (.bipush 9, 2) := by decide +kernel
theorem kx_75_39 : x_code k_P 75 39 = some (.imul, 1) := by decide +kernel
theorem kx_75_40 : x_code k_P 75 40 = some (.iconst 1, 1) := by decide +kernel
theorem kx_75_41 : x_code k_P 75 41 = some (.iadd, 1) := by decide +kernel
theorem kx_75_42 : x_code k_P 75 42 = some (.iaload, 1) := by decide +kernel
theorem kx_75_43 : x_code k_P 75 43 = some (.iload_n 2, 1) := by decide +kernel
theorem kx_75_44 : x_code k_P 75 44 = some (.if_icmp .ne 16, 3) := by decide +kernel
theorem kx_75_60 : x_code k_P 75 60 = some (.iconst 0, 1) := by decide +kernel
theorem kx_75_61 : x_code k_P 75 61 = some (.iadd, 1) := by decide +kernel
theorem kx_75_62 : x_code k_P 75 62 = some (.istore_n 3, 1) := by decide +kernel
theorem kx_75_63 : x_code k_P 75 63 = some (.iinc 4 1, 3) := by decide +kernel
theorem kx_75_66 : x_code k_P 75 66 = some (.goto (-48), 3) := by decide +kernel
theorem kx_75_47 : x_code k_P 75 47 = some (.aload_n 0, 1) := by decide +kernel
theorem kx_75_48 : x_code k_P 75 48 = some (.getfield 14, 3) := by decide +kernel
theorem kx_75_51 : x_code k_P 75 51 = some (.getfield 69, 3) := by decide +kernel
theorem kp_75_69 : x_pool k_P 75 69 = (1, 9, 11) := by decide +kernel
theorem kx_75_54 : x_code k_P 75 54 = some (.iload 4, 2) := by decide +kernel
theorem kx_75_56 : x_code k_P 75 56 = some (.iaload, 1) := by decide +kernel
theorem kx_75_57 : x_code k_P 75 57 = some (.goto 4, 3) := by decide +kernel
theorem m_75 {xs : Nat → Int} {Ln d : Nat} {T : List cK} {M : cM} (hT : TT T) (hI : Rng M) {t : Nat} (ht : t = 8 ∨ t = 25) (h70 : M 7 0 = ((t : Nat) : Int)) : cC k_P xs Ln (d + 0) 75 [rf 7, rf 1] (T, M) (qF T M 0 (fun v => 0 ≤ v ∧ v ≤ 1)) := by
  show cP k_P xs Ln (d + 0) 75 0 [(0, rf 7), (1, rf 1)] [] (T, M) _
  refine s_iconst (v := 0) kx_75_0 (by decide) ?_
  refine s_istore_n kx_75_1 km_75_2 rfl ?_
  have key2 : ∀ n3 : Nat, ∀ (x2_1 : Int), (0 ≤ x2_1) → (2147483647 - x2_1).toNat < n3 → cP k_P xs Ln (d + 0) 75 2 [(0, rf 7), (1, rf 1), (2, (0, x2_1))] [] (T, M) (qF T M 0 (fun v => 0 ≤ v ∧ v ≤ 1)) := by
    intro n3
    induction n3 with
    | zero => intro x2_1 i4 hm5; exact absurd hm5 (Nat.not_lt_zero _)
    | succ n3 ih6 =>
      intro x2_1 i4 hm5
      refine s_iload_n kx_75_2 rfl ?_
      refine s_aload_n kx_75_3 rfl ?_
      refine r_getR (k := 7) (f := 0) (k2 := t) kx_75_4 kp_75_14 (tk_7 hT) kf_5_0 (by decide) h70 ?_
      refine r_getI (k := t) (f := 0) kx_75_7 kp_75_175 (tkt_0 hT ht) kf_9_0 (fun _ => rfl) (rgt_0_0 hI ht) (fun v7 v7e v7a v7b => ?_)
      refine s_icmp_ge (t := 90) kx_75_10 (by decide) (fun hc8 => ?_) (fun hc8 => ?_)
      · refine s_iconst (v := 1) kx_75_90 (by decide) ?_
        exact s_iret kx_75_91 (Or.inr ⟨kq_75, by omega⟩) ⟨_, rfl, rfl, (by omega)⟩
      · refine s_iconst (v := 0) kx_75_13 (by decide) ?_
        refine s_istore_n kx_75_14 km_75_3 rfl ?_
        refine s_iconst (v := 0) kx_75_15 (by decide) ?_
        refine s_istore kx_75_16 km_75_4 rfl ?_
        have key11 : ∀ n12 : Nat, ∀ (x3_9 x4_10 : Int), (0 ≤ x4_10) → (2147483647 - x4_10).toNat < n12 → cP k_P xs Ln (d + 0) 75 18 [(0, rf 7), (1, rf 1), (2, (0, x2_1)), (3, (0, x3_9)), (4, (0, x4_10))] [] (T, M) (qF T M 0 (fun v => 0 ≤ v ∧ v ≤ 1)) := by
          intro n12
          induction n12 with
          | zero => intro x3_9 x4_10 i13 hm14; exact absurd hm14 (Nat.not_lt_zero _)
          | succ n12 ih15 =>
            intro x3_9 x4_10 i13 hm14
            refine s_iload kx_75_18 rfl ?_
            refine s_aload_n kx_75_20 rfl ?_
            refine r_getR (k := 7) (f := 0) (k2 := t) kx_75_21 kp_75_14 (tk_7 hT) kf_5_0 (by decide) h70 ?_
            refine r_getI (k := t) (f := 1) kx_75_24 kp_75_36 (tkt_0 hT ht) kf_9_1 (fun _ => rfl) (rgt_0_1 hI ht) (fun v16 v16e v16a v16b => ?_)
            refine s_icmp_ge (t := 69) kx_75_27 (by decide) (fun hc17 => ?_) (fun hc17 => ?_)
            · refine s_iload_n kx_75_69 rfl ?_
              refine s_aload_n kx_75_70 rfl ?_
              refine r_getR (k := 7) (f := 0) (k2 := t) kx_75_71 kp_75_14 (tk_7 hT) kf_5_0 (by decide) h70 ?_
              refine r_getR (k := t) (f := 6) (k2 := (t + 3)) kx_75_74 kp_75_87 (tkt_0 hT ht) kf_9_6 (by decide) (rqt_6 hI ht) ?_
              refine s_iload_n kx_75_77 rfl ?_
              refine r_aldU (k := (t + 3)) kx_75_78 (tkt_3 hT ht) ⟨by omega, by omega⟩ (fun v18 v18e => ?_)
              refine s_icmp_le (t := 84) kx_75_79 (by decide) (fun hc19 => ?_) (fun hc19 => ?_)
              · refine r_iinc kx_75_84 rfl km_75_2 (by decide) ⟨by omega, by omega⟩ rfl ?_
                refine s_goto (t := 2) kx_75_87 (by decide) ?_
                exact cP.wk (lS1 rfl (lS1 rfl (lS1 rfl lS0))) (ih6 (x2_1 + 1) (by omega) (by omega))
              · refine s_iconst (v := 0) kx_75_82 (by decide) ?_
                exact s_iret kx_75_83 (Or.inr ⟨kq_75, by omega⟩) ⟨_, rfl, rfl, (by omega)⟩
            · refine s_iload_n kx_75_30 rfl ?_
              refine s_aload_n kx_75_31 rfl ?_
              refine r_getR (k := 1) (f := 0) (k2 := 2) kx_75_32 kp_75_164 (tk_1 hT) kf_8_0 (by decide) (rq_1_0 hI) ?_
              refine s_iload kx_75_35 rfl ?_
              refine s_bipush (v := 9) kx_75_37 (by decide) ?_
              refine r_mul kx_75_39 ⟨by omega, by omega⟩ ?_
              refine s_iconst (v := 1) kx_75_40 (by decide) ?_
              refine r_add kx_75_41 ⟨by omega, by omega⟩ ?_
              refine r_ald (k := 2) kx_75_42 (tk_2 hT) ⟨by omega, by omega⟩ (rg_2 hI) (fun v20 v20e v20a v20b => ?_)
              refine s_iload_n kx_75_43 rfl ?_
              refine s_icmp_ne (t := 60) kx_75_44 (by decide) (fun hc21 => ?_) (fun hc21 => ?_)
              · refine s_iconst (v := 0) kx_75_60 (by decide) ?_
                refine r_iaddR kx_75_61 (fun v22 v22a v22b => ?_)
                refine s_istore_n kx_75_62 km_75_3 rfl ?_
                refine r_iinc kx_75_63 rfl km_75_4 (by decide) ⟨by omega, by omega⟩ rfl ?_
                refine s_goto (t := 18) kx_75_66 (by decide) ?_
                exact cP.wk (lS1 rfl (lS1 rfl (lS1 rfl (lS1 rfl (lS1 rfl lS0))))) (ih15 v22 (x4_10 + 1) (by omega) (by omega))
              · refine s_aload_n kx_75_47 rfl ?_
                refine r_getR (k := 7) (f := 0) (k2 := t) kx_75_48 kp_75_14 (tk_7 hT) kf_5_0 (by decide) h70 ?_
                refine r_getR (k := t) (f := 11) (k2 := (t + 8)) kx_75_51 kp_75_69 (tkt_0 hT ht) kf_9_11 (by decide) (rqt_11 hI ht) ?_
                refine s_iload kx_75_54 rfl ?_
                refine r_aldU (k := (t + 8)) kx_75_56 (tkt_8 hT ht) ⟨by omega, by omega⟩ (fun v23 v23e => ?_)
                refine s_goto (t := 61) kx_75_57 (by decide) ?_
                refine r_iaddR kx_75_61 (fun v24 v24a v24b => ?_)
                refine s_istore_n kx_75_62 km_75_3 rfl ?_
                refine r_iinc kx_75_63 rfl km_75_4 (by decide) ⟨by omega, by omega⟩ rfl ?_
                refine s_goto (t := 18) kx_75_66 (by decide) ?_
                exact cP.wk (lS1 rfl (lS1 rfl (lS1 rfl (lS1 rfl (lS1 rfl lS0))))) (ih15 v24 (x4_10 + 1) (by omega) (by omega))
        exact cP.wk (lS1 rfl (lS1 rfl (lS1 rfl (lS1 rfl (lS1 rfl lS0))))) (key11 _ 0 0 (by omega) (Nat.lt_succ_self _))
  exact cP.wk (lS1 rfl (lS1 rfl (lS1 rfl lS0))) (key2 _ 0 (by omega) (Nat.lt_succ_self _))
theorem kx_74_0 : x_code k_P 74 0 = some (.aload_n 0, 1) := by decide +kernel
theorem kx_74_1 : x_code k_P 74 1 = some (.getfield 14, 3) := by decide +kernel
theorem kp_74_14 : x_pool k_P 74 14 = (1, 5, 0) := by decide +kernel
theorem kx_74_4 : x_code k_P 74 4 = some (.getfield 36, 3) := by decide +kernel
theorem kp_74_36 : x_pool k_P 74 36 = (1, 9, 1) := by decide +kernel
theorem kx_74_7 : x_code k_P 74 7 = some (.bipush 9, 2) := by decide +kernel
theorem kx_74_9 : x_code k_P 74 9 = some (.imul, 1) := by decide +kernel
theorem kx_74_10 : x_code k_P 74 10 = some (.istore_n 2, 1) := by decide +kernel
theorem km_74_2 : 2 < x_maxL k_P 74 := by decide +kernel
theorem kx_74_11 : x_code k_P 74 11 = some (.aload_n 1, 1) := by decide +kernel
theorem kx_74_12 : x_code k_P 74 12 = some (.getfield 159, 3) := by decide +kernel
theorem kp_74_159 : x_pool k_P 74 159 = (1, 8, 1) := by decide +kernel
theorem kf_8_1 : (x_cls k_P 8)[1]? = some 0 := by decide +kernel
theorem kx_74_15 : x_code k_P 74 15 = some (.iload_n 2, 1) := by decide +kernel
theorem kx_74_16 : x_code k_P 74 16 = some (.iconst 1, 1) := by decide +kernel
theorem kx_74_17 : x_code k_P 74 17 = some (.iadd, 1) := by decide +kernel
theorem kx_74_18 : x_code k_P 74 18 = some (.if_icmp .eq 5, 3) := by decide +kernel
theorem kx_74_23 : x_code k_P 74 23 = some (.bipush 113, 2) := by decide +kernel
theorem kx_74_25 : x_code k_P 74 25 = some (.istore_n 3, 1) := by decide +kernel
theorem km_74_3 : 3 < x_maxL k_P 74 := by decide +kernel
theorem kx_74_26 : x_code k_P 74 26 = some (.iconst 0, 1) := by decide +kernel
theorem kx_74_27 : x_code k_P 74 27 = some (.istore 4, 2) := by decide +kernel
theorem km_74_4 : 4 < x_maxL k_P 74 := by decide +kernel
theorem kx_74_29 : x_code k_P 74 29 = some (.iload 4, 2) := by decide +kernel
theorem kx_74_31 : x_code k_P 74 31 = some (.iload_n 2, 1) := by decide +kernel
theorem kx_74_32 : x_code k_P 74 32 = some (.if_icmp .ge 25, 3) := by decide +kernel
theorem kx_74_57 : x_code k_P 74 57 = some (.iload_n 3, 1) := by decide +kernel
theorem kx_74_58 : x_code k_P 74 58 = some (.aload_n 1, 1) := by decide +kernel
theorem kx_74_59 : x_code k_P 74 59 = some (.getfield 164, 3) := by decide +kernel
theorem kp_74_164 : x_pool k_P 74 164 = (1, 8, 0) := by decide +kernel
theorem kx_74_62 : x_code k_P 74 62 = some (.iload_n 2, 1) := by decide +kernel
theorem kx_74_63 : x_code k_P 74 63 = some (.iaload, 1) := by decide +kernel
theorem kx_74_64 : x_code k_P 74 64 = some (.if_icmp .eq 5, 3) := by decide +kernel
theorem kx_74_69 : x_code k_P 74 69 = some (.iconst 0, 1) := by decide +kernel
theorem kx_74_70 : x_code k_P 74 70 = some (.istore 4, 2) := by decide +kernel
theorem kx_74_72 : x_code k_P 74 72 = some (.iload 4, 2) := by decide +kernel
theorem kx_74_74 : x_code k_P 74 74 = some (.aload_n 0, 1) := by decide +kernel
theorem kx_74_75 : x_code k_P 74 75 = some (.getfield 14, 3) := by decide +kernel
theorem kx_74_78 : x_code k_P 74 78 = some (.getfield 36, 3) := by decide +kernel
theorem kx_74_81 : x_code k_P 74 81 = some (.if_icmp .ge 94, 3) := by decide +kernel
theorem kx_74_175 : x_code k_P 74 175 = some (.aload_n 0, 1) := by decide +kernel
theorem kx_74_176 : x_code k_P 74 176 = some (.aload_n 1, 1) := by decide +kernel
theorem kx_74_177 : x_code k_P 74 177 = some (.invokevirtual 171, 3) := by decide +kernel
theorem kp_74_171 : x_pool k_P 74 171 = (2, 75, 1) := by decide +kernel
theorem ki_75 : x_mci k_P 75 = 5 := by decide +kernel
theorem kcl_75 : x_maxL k_P 75 ≤ 60 ∧ 2 ≤ x_maxL k_P 75 := by decide +kernel
theorem kx_74_180 : x_code k_P 74 180 = some (.ireturn, 1) := by decide +kernel
theorem kq_74 : x_retk k_P 74 = 2 := by decide +kernel
theorem kx_74_84 : x_code k_P 74 84 = some (.iload 4, 2) := by decide +kernel
theorem kx_74_86 : x_code k_P 74 86 = some (.bipush 9, 2) := by decide +kernel
theorem kx_74_88 : x_code k_P 74 88 = some (.imul, 1) := by decide +kernel
theorem kx_74_89 : x_code k_P 74 89 = some (.istore 5, 2) := by decide +kernel
theorem km_74_5 : 5 < x_maxL k_P 74 := by decide +kernel
theorem kx_74_91 : x_code k_P 74 91 = some (.aload_n 0, 1) := by decide +kernel
theorem kx_74_92 : x_code k_P 74 92 = some (.getfield 14, 3) := by decide +kernel
theorem kx_74_95 : x_code k_P 74 95 = some (.aload_n 1, 1) := by decide +kernel
theorem kx_74_96 : x_code k_P 74 96 = some (.getfield 164, 3) := by decide +kernel
theorem kx_74_99 : x_code k_P 74 99 = some (.iload 5, 2) := by decide +kernel
theorem kx_74_101 : x_code k_P 74 101 = some (.iaload, 1) := by decide +kernel
theorem kx_74_102 : x_code k_P 74 102 = some (.invokevirtual 72, 3) := by decide +kernel
theorem kp_74_72 : x_pool k_P 74 72 = (2, 106, 1) := by decide +kernel
theorem kx_74_105 : x_code k_P 74 105 = some (.ifCond .eq 62, 3) := by decide +kernel
theorem kx_74_167 : x_code k_P 74 167 = some (.iconst 0, 1) := by decide +kernel
theorem kx_74_168 : x_code k_P 74 168 = some (.ireturn, 1) := by decide +kernel
theorem kx_74_108 : x_code k_P 74 108 = some (.aload_n 0, 1) := by decide +kernel
theorem kx_74_109 : x_code k_P 74 109 = some (.getfield 14, 3) := by decide +kernel
theorem kx_74_112 : x_code k_P 74 112 = some (.aload_n 1, 1) := by decide +kernel
theorem kx_74_113 : x_code k_P 74 113 = some (.getfield 164, 3) := by decide +kernel
theorem kx_74_116 : x_code k_P 74 116 = some (.iload 5, 2) := by decide +kernel
theorem kx_74_118 : x_code k_P 74 118 = some (.iconst 1, 1) := by decide +kernel
theorem kx_74_119 : x_code k_P 74 119 = some (.iadd, 1) := by decide +kernel
theorem kx_74_120 : x_code k_P 74 120 = some (.iaload, 1) := by decide +kernel
theorem kx_74_121 : x_code k_P 74 121 = some (.invokevirtual 72, 3) := by decide +kernel
theorem kx_74_124 : x_code k_P 74 124 = some (.ifCond .eq 43, 3) := by decide +kernel
theorem kx_74_127 : x_code k_P 74 127 = some (.aload_n 1, 1) := by decide +kernel
theorem kx_74_128 : x_code k_P 74 128 = some (.getfield 164, 3) := by decide +kernel
theorem kx_74_131 : x_code k_P 74 131 = some (.iload 5, 2) := by decide +kernel
theorem kx_74_133 : x_code k_P 74 133 = some (.iconst 2, 1) := by decide +kernel
theorem kx_74_134 : x_code k_P 74 134 = some (.iadd, 1) := by decide +kernel
theorem kx_74_135 : x_code k_P 74 135 = some (.iaload, 1) := by decide +kernel
theorem kx_74_136 : x_code k_P 74 136 = some (.iconst 1, 1) := by decide +kernel
theorem kx_74_137 : x_code k_P 74 137 = some (.if_icmp .gt 30, 3) := by decide +kernel
theorem kx_74_140 : x_code k_P 74 140 = some (.aload_n 1, 1) := by decide +kernel
theorem kx_74_141 : x_code k_P 74 141 = some (.iload 5, 2) := by decide +kernel
theorem kx_74_143 : x_code k_P 74 143 = some (.iconst 3, 1) := by decide +kernel
theorem kx_74_144 : x_code k_P 74 144 = some (.iadd, 1) := by decide +kernel
theorem kx_74_145 : x_code k_P 74 145 = some (.invokestatic 167, 3) := by decide +kernel
theorem kp_74_167 : x_pool k_P 74 167 = (6, 76, 2) := by decide +kernel
theorem kcl_76 : x_maxL k_P 76 ≤ 60 ∧ 2 ≤ x_maxL k_P 76 := by decide +kernel
theorem kx_74_148 : x_code k_P 74 148 = some (.ldc 132, 2) := by decide +kernel
theorem kp_74_132 : x_pool k_P 74 132 = (7, 0, 99999) := by decide +kernel
theorem kx_74_150 : x_code k_P 74 150 = some (.if_icmp .gt 17, 3) := by decide +kernel
theorem kx_74_153 : x_code k_P 74 153 = some (.aload_n 1, 1) := by decide +kernel
theorem kx_74_154 : x_code k_P 74 154 = some (.iload 5, 2) := by decide +kernel
theorem kx_74_156 : x_code k_P 74 156 = some (.bipush 6, 2) := by decide +kernel
theorem kx_74_158 : x_code k_P 74 158 = some (.iadd, 1) := by decide +kernel
theorem kx_74_159 : x_code k_P 74 159 = some (.invokestatic 167, 3) := by decide +kernel
theorem kx_74_162 : x_code k_P 74 162 = some (.ldc 132, 2) := by decide +kernel
theorem kx_74_164 : x_code k_P 74 164 = some (.if_icmp .le 5, 3) := by decide +kernel
theorem kx_74_169 : x_code k_P 74 169 = some (.iinc 4 1, 3) := by decide +kernel
theorem kx_74_172 : x_code k_P 74 172 = some (.goto (-100), 3) := by decide +kernel
theorem kx_74_67 : x_code k_P 74 67 = some (.iconst 0, 1) := by decide +kernel
theorem kx_74_68 : x_code k_P 74 68 = some (.ireturn, 1) := by decide +kernel
theorem kx_74_35 : x_code k_P 74 35 = some (.iconst 5, 1) := by decide +kernel
theorem kx_74_36 : x_code k_P 74 36 = some (.iload_n 3, 1) := by decide +kernel
theorem kx_74_37 : x_code k_P 74 37 = some (.imul, 1) := by decide +kernel
theorem kx_74_38 : x_code k_P 74 38 = some (.aload_n 1, 1) := by decide +kernel
theorem kx_74_39 : x_code k_P 74 39 = some (.getfield 164, 3) := by decide +kernel
theorem kx_74_42 : x_code k_P 74 42 = some (.iload 4, 2) := by decide +kernel
theorem kx_74_44 : x_code k_P 74 44 = some (.iaload, 1) := by decide +kernel
theorem kx_74_45 : x_code k_P 74 45 = some (.iadd, 1) := by decide +kernel
theorem kx_74_46 : x_code k_P 74 46 = some (.sipush 251, 3) := by decide +kernel
theorem kx_74_49 : x_code k_P 74 49 = some (.irem, 1) := by decide +kernel
theorem kx_74_50 : x_code k_P 74 50 = some (.istore_n 3, 1) := by decide +kernel
theorem kx_74_51 : x_code k_P 74 51 = some (.iinc 4 1, 3) := by decide +kernel
theorem kx_74_54 : x_code k_P 74 54 = some (.goto (-25), 3) := by decide +kernel
theorem kx_74_21 : x_code k_P 74 21 = some (.iconst 0, 1) := by decide +kernel
theorem kx_74_22 : x_code k_P 74 22 = some (.ireturn, 1) := by decide +kernel
theorem m_74 {xs : Nat → Int} {Ln d : Nat} {T : List cK} {M : cM} (hT : TT T) (hI : Rng M) {t : Nat} (ht : t = 8 ∨ t = 25) (h70 : M 7 0 = ((t : Nat) : Int)) : cC k_P xs Ln (d + 1) 74 [rf 7, rf 1] (T, M) (qF T M 0 (fun v => (v = 1 ∧ M 1 1 = 9 * M t 1 + 1 ∧ ∀ p : Int, 0 ≤ p → p < M t 1 → 0 ≤ M 2 (p * 9).toNat ∧ M 2 (p * 9).toNat ≤ 7 ∧ 0 ≤ M 2 (p * 9 + 1).toNat ∧ M 2 (p * 9 + 1).toNat ≤ 7) ∨ v = 0)) := by
  show cP k_P xs Ln (d + 1) 74 0 [(0, rf 7), (1, rf 1)] [] (T, M) _
  refine s_aload_n kx_74_0 rfl ?_
  refine r_getR (k := 7) (f := 0) (k2 := t) kx_74_1 kp_74_14 (tk_7 hT) kf_5_0 (by decide) h70 ?_
  refine r_getI (k := t) (f := 1) kx_74_4 kp_74_36 (tkt_0 hT ht) kf_9_1 (fun _ => rfl) (rgt_0_1 hI ht) (fun v1 v1e v1a v1b => ?_)
  refine s_bipush (v := 9) kx_74_7 (by decide) ?_
  refine r_mul kx_74_9 ⟨by omega, by omega⟩ ?_
  refine s_istore_n kx_74_10 km_74_2 rfl ?_
  refine s_aload_n kx_74_11 rfl ?_
  refine r_getI (k := 1) (f := 1) kx_74_12 kp_74_159 (tk_1 hT) kf_8_1 (fun _ => rfl) (rg_1_1 hI) (fun v2 v2e v2a v2b => ?_)
  refine s_iload_n kx_74_15 rfl ?_
  refine s_iconst (v := 1) kx_74_16 (by decide) ?_
  refine r_add kx_74_17 ⟨by omega, by omega⟩ ?_
  refine s_icmp_eq (t := 23) kx_74_18 (by decide) (fun hc3 => ?_) (fun hc3 => ?_)
  · refine s_bipush (v := 113) kx_74_23 (by decide) ?_
    refine s_istore_n kx_74_25 km_74_3 rfl ?_
    refine s_iconst (v := 0) kx_74_26 (by decide) ?_
    refine s_istore kx_74_27 km_74_4 rfl ?_
    have key6 : ∀ n7 : Nat, ∀ (x3_4 x4_5 : Int), (0 ≤ x4_5) → (2147483647 - x4_5).toNat < n7 → cP k_P xs Ln (d + 1) 74 29 [(0, rf 7), (1, rf 1), (2, (0, (v1 * 9))), (3, (0, x3_4)), (4, (0, x4_5))] [] (T, M) (qF T M 0 (fun v => (v = 1 ∧ M 1 1 = 9 * M t 1 + 1 ∧ ∀ p : Int, 0 ≤ p → p < M t 1 → 0 ≤ M 2 (p * 9).toNat ∧ M 2 (p * 9).toNat ≤ 7 ∧ 0 ≤ M 2 (p * 9 + 1).toNat ∧ M 2 (p * 9 + 1).toNat ≤ 7) ∨ v = 0)) := by
      intro n7
      induction n7 with
      | zero => intro x3_4 x4_5 i8 hm9; exact absurd hm9 (Nat.not_lt_zero _)
      | succ n7 ih10 =>
        intro x3_4 x4_5 i8 hm9
        refine s_iload kx_74_29 rfl ?_
        refine s_iload_n kx_74_31 rfl ?_
        refine s_icmp_ge (t := 57) kx_74_32 (by decide) (fun hc11 => ?_) (fun hc11 => ?_)
        · refine s_iload_n kx_74_57 rfl ?_
          refine s_aload_n kx_74_58 rfl ?_
          refine r_getR (k := 1) (f := 0) (k2 := 2) kx_74_59 kp_74_164 (tk_1 hT) kf_8_0 (by decide) (rq_1_0 hI) ?_
          refine s_iload_n kx_74_62 rfl ?_
          refine r_ald (k := 2) kx_74_63 (tk_2 hT) ⟨by omega, by omega⟩ (rg_2 hI) (fun v12 v12e v12a v12b => ?_)
          refine s_icmp_eq (t := 69) kx_74_64 (by decide) (fun hc13 => ?_) (fun hc13 => ?_)
          · refine s_iconst (v := 0) kx_74_69 (by decide) ?_
            refine s_istore kx_74_70 km_74_4 rfl ?_
            have key15 : ∀ n16 : Nat, ∀ (x4_14 : Int), (0 ≤ x4_14) → (∀ p : Int, 0 ≤ p → p < x4_14 → 0 ≤ M 2 (p * 9).toNat ∧ M 2 (p * 9).toNat ≤ 7 ∧ 0 ≤ M 2 (p * 9 + 1).toNat ∧ M 2 (p * 9 + 1).toNat ≤ 7) → (2147483647 - x4_14).toNat < n16 → cP k_P xs Ln (d + 1) 74 72 [(0, rf 7), (1, rf 1), (4, (0, x4_14))] [] (T, M) (qF T M 0 (fun v => (v = 1 ∧ M 1 1 = 9 * M t 1 + 1 ∧ ∀ p : Int, 0 ≤ p → p < M t 1 → 0 ≤ M 2 (p * 9).toNat ∧ M 2 (p * 9).toNat ≤ 7 ∧ 0 ≤ M 2 (p * 9 + 1).toNat ∧ M 2 (p * 9 + 1).toNat ≤ 7) ∨ v = 0)) := by
              intro n16
              induction n16 with
              | zero => intro x4_14 i17 i18 hm19; exact absurd hm19 (Nat.not_lt_zero _)
              | succ n16 ih20 =>
                intro x4_14 i17 i18 hm19
                refine s_iload kx_74_72 rfl ?_
                refine s_aload_n kx_74_74 rfl ?_
                refine r_getR (k := 7) (f := 0) (k2 := t) kx_74_75 kp_74_14 (tk_7 hT) kf_5_0 (by decide) h70 ?_
                refine r_getK (k := t) (f := 1) kx_74_78 kp_74_36 (tkt_0 hT ht) kf_9_1 (fun _ => rfl) v1e ?_
                refine s_icmp_ge (t := 175) kx_74_81 (by decide) (fun hc21 => ?_) (fun hc21 => ?_)
                · refine s_aload_n kx_74_175 rfl ?_
                  refine s_aload_n kx_74_176 rfl ?_
                  refine s_callV2 (k := 7) (s1 := 2) (s2 := 0) (as := [rf 1]) (rest := []) kx_74_177 kp_74_171 (Or.inl rfl) rfl (tk_7 hT) ki_75 kcl_75 rfl rfl (by decide) (m_75 (d := d) hT hI ht h70) (kF (fun v22 v22p => ?_))
                  exact s_iret kx_74_180 (Or.inr ⟨kq_74, by omega⟩) ⟨_, rfl, rfl, (if e : v22 = 1 then Or.inl ⟨e, by omega, fun p a b => i18 p a (by omega)⟩ else Or.inr (by omega))⟩
                · refine s_iload kx_74_84 rfl ?_
                  refine s_bipush (v := 9) kx_74_86 (by decide) ?_
                  refine r_mul kx_74_88 ⟨by omega, by omega⟩ ?_
                  refine s_istore kx_74_89 km_74_5 rfl ?_
                  refine s_aload_n kx_74_91 rfl ?_
                  refine r_getR (k := 7) (f := 0) (k2 := t) kx_74_92 kp_74_14 (tk_7 hT) kf_5_0 (by decide) h70 ?_
                  refine s_aload_n kx_74_95 rfl ?_
                  refine r_getR (k := 1) (f := 0) (k2 := 2) kx_74_96 kp_74_164 (tk_1 hT) kf_8_0 (by decide) (rq_1_0 hI) ?_
                  refine s_iload kx_74_99 rfl ?_
                  refine r_ald (k := 2) kx_74_101 (tk_2 hT) ⟨by omega, by omega⟩ (rg_2 hI) (fun v23 v23e v23a v23b => ?_)
                  refine s_callV2 (k := t) (s1 := 2) (s2 := 0) (as := [(0, v23)]) (rest := []) kx_74_102 kp_74_72 (Or.inl rfl) rfl (tkt_0 hT ht) ki_106 kcl_106 rfl rfl (by decide) (m_106 (d := d) (room := v23) hT hI ht) (kF (fun v24 v24p => ?_))
                  refine s_if_eq (t := 167) kx_74_105 (by decide) (fun hc25 => ?_) (fun hc25 => ?_)
                  · replace v24p := v24p.resolve_left (by omega)
                    refine s_iconst (v := 0) kx_74_167 (by decide) ?_
                    exact s_iret kx_74_168 (Or.inr ⟨kq_74, by omega⟩) ⟨_, rfl, rfl, (Or.inr rfl)⟩
                  · replace v24p := v24p.resolve_right (by omega)
                    refine s_aload_n kx_74_108 rfl ?_
                    refine r_getR (k := 7) (f := 0) (k2 := t) kx_74_109 kp_74_14 (tk_7 hT) kf_5_0 (by decide) h70 ?_
                    refine s_aload_n kx_74_112 rfl ?_
                    refine r_getR (k := 1) (f := 0) (k2 := 2) kx_74_113 kp_74_164 (tk_1 hT) kf_8_0 (by decide) (rq_1_0 hI) ?_
                    refine s_iload kx_74_116 rfl ?_
                    refine s_iconst (v := 1) kx_74_118 (by decide) ?_
                    refine r_add kx_74_119 ⟨by omega, by omega⟩ ?_
                    refine r_ald (k := 2) kx_74_120 (tk_2 hT) ⟨by omega, by omega⟩ (rg_2 hI) (fun v26 v26e v26a v26b => ?_)
                    refine s_callV2 (k := t) (s1 := 2) (s2 := 0) (as := [(0, v26)]) (rest := []) kx_74_121 kp_74_72 (Or.inl rfl) rfl (tkt_0 hT ht) ki_106 kcl_106 rfl rfl (by decide) (m_106 (d := d) (room := v26) hT hI ht) (kF (fun v27 v27p => ?_))
                    refine s_if_eq (t := 167) kx_74_124 (by decide) (fun hc28 => ?_) (fun hc28 => ?_)
                    · replace v27p := v27p.resolve_left (by omega)
                      refine s_iconst (v := 0) kx_74_167 (by decide) ?_
                      exact s_iret kx_74_168 (Or.inr ⟨kq_74, by omega⟩) ⟨_, rfl, rfl, (Or.inr rfl)⟩
                    · replace v27p := v27p.resolve_right (by omega)
                      refine s_aload_n kx_74_127 rfl ?_
                      refine r_getR (k := 1) (f := 0) (k2 := 2) kx_74_128 kp_74_164 (tk_1 hT) kf_8_0 (by decide) (rq_1_0 hI) ?_
                      refine s_iload kx_74_131 rfl ?_
                      refine s_iconst (v := 2) kx_74_133 (by decide) ?_
                      refine r_add kx_74_134 ⟨by omega, by omega⟩ ?_
                      refine r_ald (k := 2) kx_74_135 (tk_2 hT) ⟨by omega, by omega⟩ (rg_2 hI) (fun v29 v29e v29a v29b => ?_)
                      refine s_iconst (v := 1) kx_74_136 (by decide) ?_
                      refine s_icmp_gt (t := 167) kx_74_137 (by decide) (fun hc30 => ?_) (fun hc30 => ?_)
                      · refine s_iconst (v := 0) kx_74_167 (by decide) ?_
                        exact s_iret kx_74_168 (Or.inr ⟨kq_74, by omega⟩) ⟨_, rfl, rfl, (Or.inr rfl)⟩
                      · refine s_aload_n kx_74_140 rfl ?_
                        refine s_iload kx_74_141 rfl ?_
                        refine s_iconst (v := 3) kx_74_143 (by decide) ?_
                        refine r_add kx_74_144 ⟨by omega, by omega⟩ ?_
                        refine s_callS2 (s1 := 2) (s2 := 0) (as := [(0, ((x4_14 * 9) + 3)), rf 1]) (rest := []) kx_74_145 kp_74_167 rfl kcl_76 rfl rfl (by decide) (m_76 (d := d) (first := ((x4_14 * 9) + 3)) hT hI (by omega)) (kF (fun v31 v31p => ?_))
                        refine s_ldc kx_74_148 kp_74_132 ?_
                        refine s_icmp_gt (t := 167) kx_74_150 (by decide) (fun hc32 => ?_) (fun hc32 => ?_)
                        · refine s_iconst (v := 0) kx_74_167 (by decide) ?_
                          exact s_iret kx_74_168 (Or.inr ⟨kq_74, by omega⟩) ⟨_, rfl, rfl, (Or.inr rfl)⟩
                        · refine s_aload_n kx_74_153 rfl ?_
                          refine s_iload kx_74_154 rfl ?_
                          refine s_bipush (v := 6) kx_74_156 (by decide) ?_
                          refine r_add kx_74_158 ⟨by omega, by omega⟩ ?_
                          refine s_callS2 (s1 := 2) (s2 := 0) (as := [(0, ((x4_14 * 9) + 6)), rf 1]) (rest := []) kx_74_159 kp_74_167 rfl kcl_76 rfl rfl (by decide) (m_76 (d := d) (first := ((x4_14 * 9) + 6)) hT hI (by omega)) (kF (fun v33 v33p => ?_))
                          refine s_ldc kx_74_162 kp_74_132 ?_
                          refine s_icmp_le (t := 169) kx_74_164 (by decide) (fun hc34 => ?_) (fun hc34 => ?_)
                          · refine r_iinc kx_74_169 rfl km_74_4 (by decide) ⟨by omega, by omega⟩ rfl ?_
                            refine s_goto (t := 72) kx_74_172 (by decide) ?_
                            exact cP.wk (lS1 rfl (lS1 rfl (lS1 rfl lS0))) (ih20 (x4_14 + 1) (by omega) (fun p a b => if e : p = x4_14 then (by subst e; omega) else i18 p a (by omega)) (by omega))
                          · refine s_iconst (v := 0) kx_74_167 (by decide) ?_
                            exact s_iret kx_74_168 (Or.inr ⟨kq_74, by omega⟩) ⟨_, rfl, rfl, (Or.inr rfl)⟩
            exact cP.wk (lS1 rfl (lS1 rfl (lS1 rfl lS0))) (key15 _ 0 (by omega) (fun p a b => absurd b (by omega)) (Nat.lt_succ_self _))
          · refine s_iconst (v := 0) kx_74_67 (by decide) ?_
            exact s_iret kx_74_68 (Or.inr ⟨kq_74, by omega⟩) ⟨_, rfl, rfl, (Or.inr rfl)⟩
        · refine s_iconst (v := 5) kx_74_35 (by decide) ?_
          refine s_iload_n kx_74_36 rfl ?_
          refine r_imulR kx_74_37 (fun v35 v35a v35b => ?_)
          refine s_aload_n kx_74_38 rfl ?_
          refine r_getR (k := 1) (f := 0) (k2 := 2) kx_74_39 kp_74_164 (tk_1 hT) kf_8_0 (by decide) (rq_1_0 hI) ?_
          refine s_iload kx_74_42 rfl ?_
          refine r_ald (k := 2) kx_74_44 (tk_2 hT) ⟨by omega, by omega⟩ (rg_2 hI) (fun v36 v36e v36a v36b => ?_)
          refine r_iaddR kx_74_45 (fun v37 v37a v37b => ?_)
          refine s_sipush (v := 251) kx_74_46 (by decide) ?_
          refine r_iremR kx_74_49 (by omega) (fun v38 v38a v38b => ?_)
          refine s_istore_n kx_74_50 km_74_3 rfl ?_
          refine r_iinc kx_74_51 rfl km_74_4 (by decide) ⟨by omega, by omega⟩ rfl ?_
          refine s_goto (t := 29) kx_74_54 (by decide) ?_
          exact cP.wk (lS1 rfl (lS1 rfl (lS1 rfl (lS1 rfl (lS1 rfl lS0))))) (ih10 v38 (x4_5 + 1) (by omega) (by omega))
    exact cP.wk (lS1 rfl (lS1 rfl (lS1 rfl (lS1 rfl (lS1 rfl lS0))))) (key6 _ 113 0 (by omega) (Nat.lt_succ_self _))
  · refine s_iconst (v := 0) kx_74_21 (by decide) ?_
    exact s_iret kx_74_22 (Or.inr ⟨kq_74, by omega⟩) ⟨_, rfl, rfl, (Or.inr rfl)⟩
theorem kx_77_0 : x_code k_P 77 0 = some (.iconst 0, 1) := by decide +kernel
theorem kx_77_1 : x_code k_P 77 1 = some (.istore_n 2, 1) := by decide +kernel
theorem km_77_2 : 2 < x_maxL k_P 77 := by decide +kernel
theorem kx_77_2 : x_code k_P 77 2 = some (.iload_n 2, 1) := by decide +kernel
theorem kx_77_3 : x_code k_P 77 3 = some (.aload_n 0, 1) := by decide +kernel
theorem kx_77_4 : x_code k_P 77 4 = some (.getfield 14, 3) := by decide +kernel
theorem kp_77_14 : x_pool k_P 77 14 = (1, 5, 0) := by decide +kernel
theorem kx_77_7 : x_code k_P 77 7 = some (.getfield 36, 3) := by decide +kernel
theorem kp_77_36 : x_pool k_P 77 36 = (1, 9, 1) := by decide +kernel
theorem kx_77_10 : x_code k_P 77 10 = some (.if_icmp .ge 95, 3) := by decide +kernel
theorem kx_77_105 : x_code k_P 77 105 = some (.aload_n 0, 1) := by decide +kernel
theorem kx_77_106 : x_code k_P 77 106 = some (.getfield 21, 3) := by decide +kernel
theorem kp_77_21 : x_pool k_P 77 21 = (1, 5, 2) := by decide +kernel
theorem kx_77_109 : x_code k_P 77 109 = some (.bipush 40, 2) := by decide +kernel
theorem kx_77_111 : x_code k_P 77 111 = some (.iconst 0, 1) := by decide +kernel
theorem kx_77_112 : x_code k_P 77 112 = some (.iastore, 1) := by decide +kernel
theorem kx_77_113 : x_code k_P 77 113 = some (.return_, 1) := by decide +kernel
theorem kq_77 : x_retk k_P 77 = 0 := by decide +kernel
theorem kx_77_13 : x_code k_P 77 13 = some (.iload_n 2, 1) := by decide +kernel
theorem kx_77_14 : x_code k_P 77 14 = some (.bipush 9, 2) := by decide +kernel
theorem kx_77_16 : x_code k_P 77 16 = some (.imul, 1) := by decide +kernel
theorem kx_77_17 : x_code k_P 77 17 = some (.istore_n 3, 1) := by decide +kernel
theorem km_77_3 : 3 < x_maxL k_P 77 := by decide +kernel
theorem kx_77_18 : x_code k_P 77 18 = some (.aload_n 0, 1) := by decide +kernel
theorem kx_77_19 : x_code k_P 77 19 = some (.getfield 21, 3) := by decide +kernel
theorem kx_77_22 : x_code k_P 77 22 = some (.iconst 0, 1) := by decide +kernel
theorem kx_77_23 : x_code k_P 77 23 = some (.iload_n 2, 1) := by decide +kernel
theorem kx_77_24 : x_code k_P 77 24 = some (.iadd, 1) := by decide +kernel
theorem kx_77_25 : x_code k_P 77 25 = some (.aload_n 1, 1) := by decide +kernel
theorem kx_77_26 : x_code k_P 77 26 = some (.getfield 164, 3) := by decide +kernel
theorem kp_77_164 : x_pool k_P 77 164 = (1, 8, 0) := by decide +kernel
theorem kx_77_29 : x_code k_P 77 29 = some (.iload_n 3, 1) := by decide +kernel
theorem kx_77_30 : x_code k_P 77 30 = some (.iaload, 1) := by decide +kernel
theorem kx_77_31 : x_code k_P 77 31 = some (.iastore, 1) := by decide +kernel
theorem kx_77_32 : x_code k_P 77 32 = some (.aload_n 0, 1) := by decide +kernel
theorem kx_77_33 : x_code k_P 77 33 = some (.getfield 21, 3) := by decide +kernel
theorem kx_77_36 : x_code k_P 77 36 = some (.bipush 8, 2) := by decide +kernel
theorem kx_77_38 : x_code k_P 77 38 = some (.iload_n 2, 1) := by decide +kernel
theorem kx_77_39 : x_code k_P 77 39 = some (.iadd, 1) := by decide +kernel
theorem kx_77_40 : x_code k_P 77 40 = some (.aload_n 1, 1) := by decide +kernel
theorem kx_77_41 : x_code k_P 77 41 = some (.getfield 164, 3) := by decide +kernel
theorem kx_77_44 : x_code k_P 77 44 = some (.iload_n 3, 1) := by decide +kernel
theorem kx_77_45 : x_code k_P 77 45 = some (.iconst 1, 1) := by decide +kernel
theorem kx_77_46 : x_code k_P 77 46 = some (.iadd, 1) := by decide +kernel
theorem kx_77_47 : x_code k_P 77 47 = some (.iaload, 1) := by decide +kernel
theorem kx_77_48 : x_code k_P 77 48 = some (.iastore, 1) := by decide +kernel
theorem kx_77_49 : x_code k_P 77 49 = some (.aload_n 0, 1) := by decide +kernel
theorem kx_77_50 : x_code k_P 77 50 = some (.getfield 21, 3) := by decide +kernel
theorem kx_77_53 : x_code k_P 77 53 = some (.bipush 16, 2) := by decide +kernel
theorem kx_77_55 : x_code k_P 77 55 = some (.iload_n 2, 1) := by decide +kernel
theorem kx_77_56 : x_code k_P 77 56 = some (.iadd, 1) := by decide +kernel
theorem kx_77_57 : x_code k_P 77 57 = some (.aload_n 1, 1) := by decide +kernel
theorem kx_77_58 : x_code k_P 77 58 = some (.getfield 164, 3) := by decide +kernel
theorem kx_77_61 : x_code k_P 77 61 = some (.iload_n 3, 1) := by decide +kernel
theorem kx_77_62 : x_code k_P 77 62 = some (.iconst 2, 1) := by decide +kernel
theorem kx_77_63 : x_code k_P 77 63 = some (.iadd, 1) := by decide +kernel
theorem kx_77_64 : x_code k_P 77 64 = some (.iaload, 1) := by decide +kernel
theorem kx_77_65 : x_code k_P 77 65 = some (.iastore, 1) := by decide +kernel
theorem kx_77_66 : x_code k_P 77 66 = some (.aload_n 0, 1) := by decide +kernel
theorem kx_77_67 : x_code k_P 77 67 = some (.getfield 21, 3) := by decide +kernel
theorem kx_77_70 : x_code k_P 77 70 = some (.bipush 24, 2) := by decide +kernel
theorem kx_77_72 : x_code k_P 77 72 = some (.iload_n 2, 1) := by decide +kernel
theorem kx_77_73 : x_code k_P 77 73 = some (.iadd, 1) := by decide +kernel
theorem kx_77_74 : x_code k_P 77 74 = some (.aload_n 1, 1) := by decide +kernel
theorem kx_77_75 : x_code k_P 77 75 = some (.iload_n 3, 1) := by decide +kernel
theorem kx_77_76 : x_code k_P 77 76 = some (.iconst 3, 1) := by decide +kernel
theorem kx_77_77 : x_code k_P 77 77 = some (.iadd, 1) := by decide +kernel
theorem kx_77_78 : x_code k_P 77 78 = some (.invokestatic 167, 3) := by decide +kernel
theorem kp_77_167 : x_pool k_P 77 167 = (6, 76, 2) := by decide +kernel
theorem kx_77_81 : x_code k_P 77 81 = some (.iastore, 1) := by decide +kernel
theorem kx_77_82 : x_code k_P 77 82 = some (.aload_n 0, 1) := by decide +kernel
theorem kx_77_83 : x_code k_P 77 83 = some (.getfield 21, 3) := by decide +kernel
theorem kx_77_86 : x_code k_P 77 86 = some (.bipush 32, 2) := by decide +kernel
theorem kx_77_88 : x_code k_P 77 88 = some (.iload_n 2, 1) := by decide +kernel
theorem kx_77_89 : x_code k_P 77 89 = some (.iadd, 1) := by decide +kernel
theorem kx_77_90 : x_code k_P 77 90 = some (.aload_n 1, 1) := by decide +kernel
theorem kx_77_91 : x_code k_P 77 91 = some (.iload_n 3, 1) := by decide +kernel
theorem kx_77_92 : x_code k_P 77 92 = some (.bipush 6, 2) := by decide +kernel
theorem kx_77_94 : x_code k_P 77 94 = some (.iadd, 1) := by decide +kernel
theorem kx_77_95 : x_code k_P 77 95 = some (.invokestatic 167, 3) := by decide +kernel
theorem kx_77_98 : x_code k_P 77 98 = some (.iastore, 1) := by decide +kernel
theorem kx_77_99 : x_code k_P 77 99 = some (.iinc 2 1, 3) := by decide +kernel
theorem kx_77_102 : x_code k_P 77 102 = some (.goto (-100), 3) := by decide +kernel
def fS_77_l2 : List (Nat × Nat) := [(42, 99999)]
def fS_77_m : List (Nat × Nat) := [(42, 99999)]
theorem m_77 {xs : Nat → Int} {Ln d : Nat} {T : List cK} {M : cM} (hT : TT T) (hI : Rng M) {t : Nat} (ht : t = 8 ∨ t = 25) (h70 : M 7 0 = ((t : Nat) : Int)) (p0 : ∀ p : Int, 0 ≤ p → p < M t 1 → 0 ≤ M 2 (p * 9).toNat ∧ M 2 (p * 9).toNat ≤ 7 ∧ 0 ≤ M 2 (p * 9 + 1).toNat ∧ M 2 (p * 9 + 1).toNat ≤ 7) : cC k_P xs Ln (d + 1) 77 [rf 7, rf 1] (T, M) (qV T M fS_77_m (fun M1 => True)) := by
  show cP k_P xs Ln (d + 1) 77 0 [(0, rf 7), (1, rf 1)] [] (T, M) _
  have hFm : Fr fS_77_m M M := Fr.refl
  refine s_iconst (v := 0) kx_77_0 (by decide) ?_
  refine s_istore_n kx_77_1 km_77_2 rfl ?_
  have key3 : ∀ n4 : Nat, ∀ (x2_1 : Int), ∀ M2 : cM, Rng M2 → Fr fS_77_m M M2 → Fr fS_77_l2 M M2 → (0 ≤ x2_1) → (2147483647 - x2_1).toNat < n4 → cP k_P xs Ln (d + 1) 77 2 [(0, rf 7), (1, rf 1), (2, (0, x2_1))] [] (T, M2) (qV T M fS_77_m (fun M1 => True)) := by
    intro n4
    induction n4 with
    | zero => intro x2_1 M2 hI2 hFm2 fl2 i5 hm6; exact absurd hm6 (Nat.not_lt_zero _)
    | succ n4 ih7 =>
      intro x2_1 M2 hI2 hFm2 fl2 i5 hm6
      refine s_iload_n kx_77_2 rfl ?_
      refine s_aload_n kx_77_3 rfl ?_
      refine r_getR (k := 7) (f := 0) (k2 := t) kx_77_4 kp_77_14 (tk_7 hT) kf_5_0 (by decide) ((fl2 7 0 rfl).trans h70) ?_
      refine r_getI (k := t) (f := 1) kx_77_7 kp_77_36 (tkt_0 hT ht) kf_9_1 (fun _ => rfl) (rgt_0_1 hI2 ht) (fun v8 v8e v8a v8b => ?_)
      have v8z : M t 1 = v8 := ((fl2 t 1 (by rcases ht with rfl | rfl <;> rfl))).symm.trans v8e
      refine s_icmp_ge (t := 105) kx_77_10 (by decide) (fun hc9 => ?_) (fun hc9 => ?_)
      · refine s_aload_n kx_77_105 rfl ?_
        refine r_getR (k := 7) (f := 2) (k2 := 42) kx_77_106 kp_77_21 (tk_7 hT) kf_5_2 (by decide) (rq_7_2 hI2) ?_
        refine s_bipush (v := 40) kx_77_109 (by decide) ?_
        refine s_iconst (v := 0) kx_77_111 (by decide) ?_
        refine r_ast (k := 42) kx_77_112 (tk_42 hT) ⟨by decide, by decide⟩ hI2 (ru_42 (fun _ => by omega) (fun _ => by omega)) (fun M10 hI10 u10 => ?_)
        have hFm10 := hFm2.up u10 rfl
        have hFl210 := fl2.up u10 rfl
        exact s_vret kx_77_113 kq_77 ⟨_, rfl, rfl, hI10, hFm10, trivial⟩
      · refine s_iload_n kx_77_13 rfl ?_
        refine s_bipush (v := 9) kx_77_14 (by decide) ?_
        refine r_mul kx_77_16 ⟨by omega, by omega⟩ ?_
        refine s_istore_n kx_77_17 km_77_3 rfl ?_
        refine s_aload_n kx_77_18 rfl ?_
        refine r_getR (k := 7) (f := 2) (k2 := 42) kx_77_19 kp_77_21 (tk_7 hT) kf_5_2 (by decide) (rq_7_2 hI2) ?_
        refine s_iconst (v := 0) kx_77_22 (by decide) ?_
        refine s_iload_n kx_77_23 rfl ?_
        refine r_add kx_77_24 ⟨by omega, by omega⟩ ?_
        refine s_aload_n kx_77_25 rfl ?_
        refine r_getR (k := 1) (f := 0) (k2 := 2) kx_77_26 kp_77_164 (tk_1 hT) kf_8_0 (by decide) (rq_1_0 hI2) ?_
        refine s_iload_n kx_77_29 rfl ?_
        refine r_ald (k := 2) kx_77_30 (tk_2 hT) ⟨by omega, by omega⟩ (rg_2 hI2) (fun v11 v11e v11a v11b => ?_)
        have hb12 := p0 x2_1 (by omega) (by omega)
        have he13 : M2 2 (x2_1 * 9).toNat = M 2 (x2_1 * 9).toNat := (fl2 2 _ rfl)
        refine r_ast (k := 42) kx_77_31 (tk_42 hT) ⟨by omega, by omega⟩ hI2 (ru_42 (fun _ => by omega) (fun _ => by omega)) (fun M14 hI14 u14 => ?_)
        have hFm14 := hFm2.up u14 rfl
        have hFl214 := fl2.up u14 rfl
        refine s_aload_n kx_77_32 rfl ?_
        refine r_getR (k := 7) (f := 2) (k2 := 42) kx_77_33 kp_77_21 (tk_7 hT) kf_5_2 (by decide) (rq_7_2 hI14) ?_
        refine s_bipush (v := 8) kx_77_36 (by decide) ?_
        refine s_iload_n kx_77_38 rfl ?_
        refine r_add kx_77_39 ⟨by omega, by omega⟩ ?_
        refine s_aload_n kx_77_40 rfl ?_
        refine r_getR (k := 1) (f := 0) (k2 := 2) kx_77_41 kp_77_164 (tk_1 hT) kf_8_0 (by decide) (rq_1_0 hI14) ?_
        refine s_iload_n kx_77_44 rfl ?_
        refine s_iconst (v := 1) kx_77_45 (by decide) ?_
        refine r_add kx_77_46 ⟨by omega, by omega⟩ ?_
        refine r_ald (k := 2) kx_77_47 (tk_2 hT) ⟨by omega, by omega⟩ (rg_2 hI14) (fun v15 v15e v15a v15b => ?_)
        have hb16 := p0 x2_1 (by omega) (by omega)
        have he17 : M14 2 (x2_1 * 9 + 1).toNat = M 2 (x2_1 * 9 + 1).toNat := ((u14.2 2 _ (by omega)).trans (fl2 2 _ rfl))
        refine r_ast (k := 42) kx_77_48 (tk_42 hT) ⟨by omega, by omega⟩ hI14 (ru_42 (fun _ => by omega) (fun _ => by omega)) (fun M18 hI18 u18 => ?_)
        have hFm18 := hFm14.up u18 rfl
        have hFl218 := hFl214.up u18 rfl
        refine s_aload_n kx_77_49 rfl ?_
        refine r_getR (k := 7) (f := 2) (k2 := 42) kx_77_50 kp_77_21 (tk_7 hT) kf_5_2 (by decide) (rq_7_2 hI18) ?_
        refine s_bipush (v := 16) kx_77_53 (by decide) ?_
        refine s_iload_n kx_77_55 rfl ?_
        refine r_add kx_77_56 ⟨by omega, by omega⟩ ?_
        refine s_aload_n kx_77_57 rfl ?_
        refine r_getR (k := 1) (f := 0) (k2 := 2) kx_77_58 kp_77_164 (tk_1 hT) kf_8_0 (by decide) (rq_1_0 hI18) ?_
        refine s_iload_n kx_77_61 rfl ?_
        refine s_iconst (v := 2) kx_77_62 (by decide) ?_
        refine r_add kx_77_63 ⟨by omega, by omega⟩ ?_
        refine r_ald (k := 2) kx_77_64 (tk_2 hT) ⟨by omega, by omega⟩ (rg_2 hI18) (fun v19 v19e v19a v19b => ?_)
        refine r_ast (k := 42) kx_77_65 (tk_42 hT) ⟨by omega, by omega⟩ hI18 (ru_42 (fun _ => by omega) (fun _ => by omega)) (fun M20 hI20 u20 => ?_)
        have hFm20 := hFm18.up u20 rfl
        have hFl220 := hFl218.up u20 rfl
        refine s_aload_n kx_77_66 rfl ?_
        refine r_getR (k := 7) (f := 2) (k2 := 42) kx_77_67 kp_77_21 (tk_7 hT) kf_5_2 (by decide) (rq_7_2 hI20) ?_
        refine s_bipush (v := 24) kx_77_70 (by decide) ?_
        refine s_iload_n kx_77_72 rfl ?_
        refine r_add kx_77_73 ⟨by omega, by omega⟩ ?_
        refine s_aload_n kx_77_74 rfl ?_
        refine s_iload_n kx_77_75 rfl ?_
        refine s_iconst (v := 3) kx_77_76 (by decide) ?_
        refine r_add kx_77_77 ⟨by omega, by omega⟩ ?_
        refine s_callS2 (s1 := 2) (s2 := 2) (as := [(0, ((x2_1 * 9) + 3)), rf 1]) (rest := [(0, (24 + x2_1)), rf 42]) kx_77_78 kp_77_167 rfl kcl_76 rfl rfl (by decide) (m_76 (d := d) (first := ((x2_1 * 9) + 3)) hT hI20 (by omega)) (kF (fun v21 v21p => ?_))
        refine r_ast (k := 42) kx_77_81 (tk_42 hT) ⟨by omega, by omega⟩ hI20 (ru_42 (fun _ => by omega) (fun _ => by omega)) (fun M22 hI22 u22 => ?_)
        have hFm22 := hFm20.up u22 rfl
        have hFl222 := hFl220.up u22 rfl
        refine s_aload_n kx_77_82 rfl ?_
        refine r_getR (k := 7) (f := 2) (k2 := 42) kx_77_83 kp_77_21 (tk_7 hT) kf_5_2 (by decide) (rq_7_2 hI22) ?_
        refine s_bipush (v := 32) kx_77_86 (by decide) ?_
        refine s_iload_n kx_77_88 rfl ?_
        refine r_add kx_77_89 ⟨by omega, by omega⟩ ?_
        refine s_aload_n kx_77_90 rfl ?_
        refine s_iload_n kx_77_91 rfl ?_
        refine s_bipush (v := 6) kx_77_92 (by decide) ?_
        refine r_add kx_77_94 ⟨by omega, by omega⟩ ?_
        refine s_callS2 (s1 := 2) (s2 := 2) (as := [(0, ((x2_1 * 9) + 6)), rf 1]) (rest := [(0, (32 + x2_1)), rf 42]) kx_77_95 kp_77_167 rfl kcl_76 rfl rfl (by decide) (m_76 (d := d) (first := ((x2_1 * 9) + 6)) hT hI22 (by omega)) (kF (fun v23 v23p => ?_))
        refine r_ast (k := 42) kx_77_98 (tk_42 hT) ⟨by omega, by omega⟩ hI22 (ru_42 (fun _ => by omega) (fun _ => by omega)) (fun M24 hI24 u24 => ?_)
        have hFm24 := hFm22.up u24 rfl
        have hFl224 := hFl222.up u24 rfl
        refine r_iinc kx_77_99 rfl km_77_2 (by decide) ⟨by omega, by omega⟩ rfl ?_
        refine s_goto (t := 2) kx_77_102 (by decide) ?_
        exact cP.wk (lS1 rfl (lS1 rfl (lS1 rfl lS0))) (ih7 (x2_1 + 1) M24 hI24 hFm24 hFl224 (by omega) (by omega))
  exact cP.wk (lS1 rfl (lS1 rfl (lS1 rfl lS0))) (key3 _ 0 M hI hFm Fr.refl (by omega) (Nat.lt_succ_self _))
theorem kx_42_0 : x_code k_P 42 0 = some (.aload_n 0, 1) := by decide +kernel
theorem kx_42_1 : x_code k_P 42 1 = some (.getfield 14, 3) := by decide +kernel
theorem kp_42_14 : x_pool k_P 42 14 = (1, 5, 0) := by decide +kernel
theorem kx_42_4 : x_code k_P 42 4 = some (.astore_n 1, 1) := by decide +kernel
theorem km_42_1 : 1 < x_maxL k_P 42 := by decide +kernel
theorem kx_42_5 : x_code k_P 42 5 = some (.aload_n 0, 1) := by decide +kernel
theorem kx_42_6 : x_code k_P 42 6 = some (.aload_n 0, 1) := by decide +kernel
theorem kx_42_7 : x_code k_P 42 7 = some (.getfield 18, 3) := by decide +kernel
theorem kp_42_18 : x_pool k_P 42 18 = (1, 5, 1) := by decide +kernel
theorem kf_5_1 : (x_cls k_P 5)[1]? = some 2 := by decide +kernel
theorem kx_42_10 : x_code k_P 42 10 = some (.putfield 14, 3) := by decide +kernel
theorem kx_42_13 : x_code k_P 42 13 = some (.aload_n 0, 1) := by decide +kernel
theorem kx_42_14 : x_code k_P 42 14 = some (.aload_n 1, 1) := by decide +kernel
theorem kx_42_15 : x_code k_P 42 15 = some (.putfield 18, 3) := by decide +kernel
theorem kx_42_18 : x_code k_P 42 18 = some (.aload_n 0, 1) := by decide +kernel
theorem kx_42_19 : x_code k_P 42 19 = some (.getfield 21, 3) := by decide +kernel
theorem kp_42_21 : x_pool k_P 42 21 = (1, 5, 2) := by decide +kernel
theorem kx_42_22 : x_code k_P 42 22 = some (.iconst 0, 1) := by decide +kernel
theorem kx_42_23 : x_code k_P 42 23 = some (.invokestatic 30, 3) := by decide +kernel
theorem kp_42_30 : x_pool k_P 42 30 = (6, 301, 2) := by decide +kernel
theorem kx_42_26 : x_code k_P 42 26 = some (.iconst 0, 1) := by decide +kernel
theorem kx_42_27 : x_code k_P 42 27 = some (.istore_n 2, 1) := by decide +kernel
theorem km_42_2 : 2 < x_maxL k_P 42 := by decide +kernel
theorem kx_42_28 : x_code k_P 42 28 = some (.iload_n 2, 1) := by decide +kernel
theorem kx_42_29 : x_code k_P 42 29 = some (.aload_n 0, 1) := by decide +kernel
theorem kx_42_30 : x_code k_P 42 30 = some (.getfield 14, 3) := by decide +kernel
theorem kx_42_33 : x_code k_P 42 33 = some (.getfield 36, 3) := by decide +kernel
theorem kp_42_36 : x_pool k_P 42 36 = (1, 9, 1) := by decide +kernel
theorem kx_42_36 : x_code k_P 42 36 = some (.if_icmp .ge 44, 3) := by decide +kernel
theorem kx_42_80 : x_code k_P 42 80 = some (.return_, 1) := by decide +kernel
theorem kq_42 : x_retk k_P 42 = 0 := by decide +kernel
theorem kx_42_39 : x_code k_P 42 39 = some (.aload_n 0, 1) := by decide +kernel
theorem kx_42_40 : x_code k_P 42 40 = some (.getfield 21, 3) := by decide +kernel
theorem kx_42_43 : x_code k_P 42 43 = some (.iconst 0, 1) := by decide +kernel
theorem kx_42_44 : x_code k_P 42 44 = some (.iload_n 2, 1) := by decide +kernel
theorem kx_42_45 : x_code k_P 42 45 = some (.iadd, 1) := by decide +kernel
theorem kx_42_46 : x_code k_P 42 46 = some (.aload_n 0, 1) := by decide +kernel
theorem kx_42_47 : x_code k_P 42 47 = some (.getfield 14, 3) := by decide +kernel
theorem kx_42_50 : x_code k_P 42 50 = some (.getfield 40, 3) := by decide +kernel
theorem kp_42_40 : x_pool k_P 42 40 = (1, 9, 13) := by decide +kernel
theorem kx_42_53 : x_code k_P 42 53 = some (.iload_n 2, 1) := by decide +kernel
theorem kx_42_54 : x_code k_P 42 54 = some (.iaload, 1) := by decide +kernel
theorem kx_42_55 : x_code k_P 42 55 = some (.iastore, 1) := by decide +kernel
theorem kx_42_56 : x_code k_P 42 56 = some (.aload_n 0, 1) := by decide +kernel
theorem kx_42_57 : x_code k_P 42 57 = some (.getfield 21, 3) := by decide +kernel
theorem kx_42_60 : x_code k_P 42 60 = some (.bipush 8, 2) := by decide +kernel
theorem kx_42_62 : x_code k_P 42 62 = some (.iload_n 2, 1) := by decide +kernel
theorem kx_42_63 : x_code k_P 42 63 = some (.iadd, 1) := by decide +kernel
theorem kx_42_64 : x_code k_P 42 64 = some (.aload_n 0, 1) := by decide +kernel
theorem kx_42_65 : x_code k_P 42 65 = some (.getfield 14, 3) := by decide +kernel
theorem kx_42_68 : x_code k_P 42 68 = some (.getfield 40, 3) := by decide +kernel
theorem kx_42_71 : x_code k_P 42 71 = some (.iload_n 2, 1) := by decide +kernel
theorem kx_42_72 : x_code k_P 42 72 = some (.iaload, 1) := by decide +kernel
theorem kx_42_73 : x_code k_P 42 73 = some (.iastore, 1) := by decide +kernel
theorem kx_42_74 : x_code k_P 42 74 = some (.iinc 2 1, 3) := by decide +kernel
theorem kx_42_77 : x_code k_P 42 77 = some (.goto (-49), 3) := by decide +kernel
def fS_42_l28 : List (Nat × Nat) := [(42, 99999)]
def fS_42_m : List (Nat × Nat) := [(42, 99999), (7, 0), (7, 1)]
theorem m_42 {xs : Nat → Int} {Ln d : Nat} {T : List cK} {M : cM} (hT : TT T) (hI : Rng M) {t u : Nat} (ht : t = 8 ∨ t = 25) (hu : u = 8 ∨ u = 25) (h71 : M 7 1 = ((t : Nat) : Int)) (h7u : M 7 0 = ((u : Nat) : Int)) : cC k_P xs Ln (d + 1) 42 [rf 7] (T, M) (qV T M fS_42_m (fun M1 => M1 7 0 = ((t : Nat) : Int) ∧ M1 7 1 = ((u : Nat) : Int))) := by
  show cP k_P xs Ln (d + 1) 42 0 [(0, rf 7)] [] (T, M) _
  have hFm : Fr fS_42_m M M := Fr.refl
  refine s_aload_n kx_42_0 rfl ?_
  refine r_getR (k := 7) (f := 0) (k2 := u) kx_42_1 kp_42_14 (tk_7 hT) kf_5_0 (by decide) h7u ?_
  refine s_astore_n kx_42_4 km_42_1 rfl ?_
  refine s_aload_n kx_42_5 rfl ?_
  refine s_aload_n kx_42_6 rfl ?_
  refine r_getR (k := 7) (f := 1) (k2 := t) kx_42_7 kp_42_18 (tk_7 hT) kf_5_1 (by decide) h71 ?_
  refine r_put (k := 7) (f := 0) kx_42_10 kp_42_14 (tk_7 hT) kf_5_0 rfl (by decide) (by decide) hI (ru_7_0 (by omega) (by omega)) (fun M1 hI1 u1 => ?_)
  have hFm1 := hFm.up u1 rfl
  refine s_aload_n kx_42_13 rfl ?_
  refine s_aload_n kx_42_14 rfl ?_
  refine r_put (k := 7) (f := 1) kx_42_15 kp_42_18 (tk_7 hT) kf_5_1 rfl (by decide) (by decide) hI1 (ru_7_1 (by omega) (by omega)) (fun M2 hI2 u2 => ?_)
  have hFm2 := hFm1.up u2 rfl
  refine s_aload_n kx_42_18 rfl ?_
  refine r_getR (k := 7) (f := 2) (k2 := 42) kx_42_19 kp_42_21 (tk_7 hT) kf_5_2 (by decide) (rq_7_2 hI2) ?_
  refine s_iconst (v := 0) kx_42_22 (by decide) ?_
  refine s_callS2 (s1 := 2) (s2 := 0) (as := [(0, 0), rf 42]) (rest := []) kx_42_23 kp_42_30 rfl kcl_301 rfl rfl (by decide) (m_301 (d := d) (val := 0) hT hI2 (k := 42) (n := 81) (tk_42 hT) (by decide) (fun _ => (ru_42 (fun _ => by omega) (fun _ => by omega)))) (kV (fun M4 hI4 fr4 v3p => ?_))
  have hFm4 := hFm2.call fr4 rfl
  refine s_iconst (v := 0) kx_42_26 (by decide) ?_
  refine s_istore_n kx_42_27 km_42_2 rfl ?_
  have key7 : ∀ n8 : Nat, ∀ (x2_5 : Int), ∀ M6 : cM, Rng M6 → Fr fS_42_m M M6 → Fr fS_42_l28 M4 M6 → (0 ≤ x2_5) → (2147483647 - x2_5).toNat < n8 → cP k_P xs Ln (d + 1) 42 28 [(0, rf 7), (2, (0, x2_5))] [] (T, M6) (qV T M fS_42_m (fun M1 => M1 7 0 = ((t : Nat) : Int) ∧ M1 7 1 = ((u : Nat) : Int))) := by
    intro n8
    induction n8 with
    | zero => intro x2_5 M6 hI6 hFm6 fl6 i9 hm10; exact absurd hm10 (Nat.not_lt_zero _)
    | succ n8 ih11 =>
      intro x2_5 M6 hI6 hFm6 fl6 i9 hm10
      refine s_iload_n kx_42_28 rfl ?_
      refine s_aload_n kx_42_29 rfl ?_
      refine r_getR (k := 7) (f := 0) (k2 := t) kx_42_30 kp_42_14 (tk_7 hT) kf_5_0 (by decide) ((fl6 7 0 rfl).trans ((fr4 7 0 rfl).trans ((u2.2 7 0 (by omega)).trans u1.1))) ?_
      refine r_getI (k := t) (f := 1) kx_42_33 kp_42_36 (tkt_0 hT ht) kf_9_1 (fun _ => rfl) (rgt_0_1 hI6 ht) (fun v12 v12e v12a v12b => ?_)
      have v12z : M t 1 = v12 := (((fl6 t 1 (by rcases ht with rfl | rfl <;> rfl)).trans ((fr4 t 1 (by rcases ht with rfl | rfl <;> rfl)).trans ((u2.2 t 1 (by omega)).trans (u1.2 t 1 (by omega)))))).symm.trans v12e
      refine s_icmp_ge (t := 80) kx_42_36 (by decide) (fun hc13 => ?_) (fun hc13 => ?_)
      · exact s_vret kx_42_80 kq_42 ⟨_, rfl, rfl, hI6, hFm6, ⟨((fl6 7 0 rfl).trans ((fr4 7 0 rfl).trans ((u2.2 7 0 (by omega)).trans u1.1))), ((fl6 7 1 rfl).trans ((fr4 7 1 rfl).trans u2.1))⟩⟩
      · refine s_aload_n kx_42_39 rfl ?_
        refine r_getR (k := 7) (f := 2) (k2 := 42) kx_42_40 kp_42_21 (tk_7 hT) kf_5_2 (by decide) (rq_7_2 hI6) ?_
        refine s_iconst (v := 0) kx_42_43 (by decide) ?_
        refine s_iload_n kx_42_44 rfl ?_
        refine r_add kx_42_45 ⟨by omega, by omega⟩ ?_
        refine s_aload_n kx_42_46 rfl ?_
        refine r_getR (k := 7) (f := 0) (k2 := t) kx_42_47 kp_42_14 (tk_7 hT) kf_5_0 (by decide) ((fl6 7 0 rfl).trans ((fr4 7 0 rfl).trans ((u2.2 7 0 (by omega)).trans u1.1))) ?_
        refine r_getR (k := t) (f := 13) (k2 := (t + 10)) kx_42_50 kp_42_40 (tkt_0 hT ht) kf_9_13 (by decide) (rqt_13 hI6 ht) ?_
        refine s_iload_n kx_42_53 rfl ?_
        refine r_ald (k := (t + 10)) kx_42_54 (tkt_10 hT ht) ⟨by omega, by omega⟩ (rgt_10 hI6 ht) (fun v14 v14e v14a v14b => ?_)
        refine r_ast (k := 42) kx_42_55 (tk_42 hT) ⟨by omega, by omega⟩ hI6 (ru_42 (fun _ => by omega) (fun _ => by omega)) (fun M15 hI15 u15 => ?_)
        have hFm15 := hFm6.up u15 rfl
        have hFl2815 := fl6.up u15 rfl
        refine s_aload_n kx_42_56 rfl ?_
        refine r_getR (k := 7) (f := 2) (k2 := 42) kx_42_57 kp_42_21 (tk_7 hT) kf_5_2 (by decide) (rq_7_2 hI15) ?_
        refine s_bipush (v := 8) kx_42_60 (by decide) ?_
        refine s_iload_n kx_42_62 rfl ?_
        refine r_add kx_42_63 ⟨by omega, by omega⟩ ?_
        refine s_aload_n kx_42_64 rfl ?_
        refine r_getR (k := 7) (f := 0) (k2 := t) kx_42_65 kp_42_14 (tk_7 hT) kf_5_0 (by decide) ((u15.2 7 0 (by omega)).trans ((fl6 7 0 rfl).trans ((fr4 7 0 rfl).trans ((u2.2 7 0 (by omega)).trans u1.1)))) ?_
        refine r_getR (k := t) (f := 13) (k2 := (t + 10)) kx_42_68 kp_42_40 (tkt_0 hT ht) kf_9_13 (by decide) (rqt_13 hI15 ht) ?_
        refine s_iload_n kx_42_71 rfl ?_
        refine r_aldK (k := (t + 10)) kx_42_72 (tkt_10 hT ht) ⟨by omega, by omega⟩ ((u15.2 (t + 10) _ (by omega)).trans v14e) ?_
        refine r_ast (k := 42) kx_42_73 (tk_42 hT) ⟨by omega, by omega⟩ hI15 (ru_42 (fun _ => by omega) (fun _ => by omega)) (fun M16 hI16 u16 => ?_)
        have hFm16 := hFm15.up u16 rfl
        have hFl2816 := hFl2815.up u16 rfl
        refine r_iinc kx_42_74 rfl km_42_2 (by decide) ⟨by omega, by omega⟩ rfl ?_
        refine s_goto (t := 28) kx_42_77 (by decide) ?_
        exact cP.wk (lS1 rfl (lS1 rfl lS0)) (ih11 (x2_5 + 1) M16 hI16 hFm16 hFl2816 (by omega) (by omega))
  exact cP.wk (lS1 rfl (lS1 rfl lS0)) (key7 _ 0 M4 hI4 hFm4 Fr.refl (by omega) (Nat.lt_succ_self _))
