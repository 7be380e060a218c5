theorem kx_19_0 : x_code k_P 19 0 = some (.aload_n 0, 1) := by decide +kernel
theorem kx_19_1 : x_code k_P 19 1 = some (.aload_n 1, 1) := by decide +kernel
theorem kx_19_2 : x_code k_P 19 2 = some (.getfield 35, 3) := by decide +kernel
theorem kp_19_35 : x_pool k_P 19 35 = (1, 8, 0) := by decide +kernel
theorem kx_19_5 : x_code k_P 19 5 = some (.putfield 7, 3) := by decide +kernel
theorem kp_19_7 : x_pool k_P 19 7 = (1, 3, 0) := by decide +kernel
theorem kf_3_0 : (x_cls k_P 3)[0]? = some 2 := by decide +kernel
theorem kx_19_8 : x_code k_P 19 8 = some (.aload_n 0, 1) := by decide +kernel
theorem kx_19_9 : x_code k_P 19 9 = some (.aload_n 1, 1) := by decide +kernel
theorem kx_19_10 : x_code k_P 19 10 = some (.getfield 40, 3) := by decide +kernel
theorem kp_19_40 : x_pool k_P 19 40 = (1, 8, 1) := by decide +kernel
theorem kx_19_13 : x_code k_P 19 13 = some (.aload_n 1, 1) := by decide +kernel
theorem kx_19_14 : x_code k_P 19 14 = some (.getfield 35, 3) := by decide +kernel
theorem kx_19_17 : x_code k_P 19 17 = some (.arraylength, 1) := by decide +kernel
theorem kx_19_18 : x_code k_P 19 18 = some (.invokestatic 41, 3) := by decide +kernel
theorem kp_19_41 : x_pool k_P 19 41 = (6, 299, 2) := by decide +kernel
theorem kx_19_21 : x_code k_P 19 21 = some (.putfield 13, 3) := by decide +kernel
theorem kp_19_13 : x_pool k_P 19 13 = (1, 3, 1) := by decide +kernel
theorem kf_3_1 : (x_cls k_P 3)[1]? = some 0 := by decide +kernel
theorem kx_19_24 : x_code k_P 19 24 = some (.aload_n 0, 1) := by decide +kernel
theorem kx_19_25 : x_code k_P 19 25 = some (.iconst 0, 1) := by decide +kernel
theorem kx_19_26 : x_code k_P 19 26 = some (.putfield 17, 3) := by decide +kernel
theorem kp_19_17 : x_pool k_P 19 17 = (1, 3, 2) := by decide +kernel
theorem kf_3_2 : (x_cls k_P 3)[2]? = some 0 := by decide +kernel
theorem kx_19_29 : x_code k_P 19 29 = some (.aload_n 0, 1) := by decide +kernel
theorem kx_19_30 : x_code k_P 19 30 = some (.iconst 0, 1) := by decide +kernel
theorem kx_19_31 : x_code k_P 19 31 = some (.putfield 20, 3) := by decide +kernel
theorem kp_19_20 : x_pool k_P 19 20 = (1, 3, 3) := by decide +kernel
theorem kf_3_3 : (x_cls k_P 3)[3]? = some 0 := by decide +kernel
theorem kx_19_34 : x_code k_P 19 34 = some (.aload_n 0, 1) := by decide +kernel
theorem kx_19_35 : x_code k_P 19 35 = some (.iconst 0, 1) := by decide +kernel
theorem kx_19_36 : x_code k_P 19 36 = some (.putfield 29, 3) := by decide +kernel
theorem kp_19_29 : x_pool k_P 19 29 = (1, 3, 6) := by decide +kernel
theorem kf_3_6 : (x_cls k_P 3)[6]? = some 0 := by decide +kernel
theorem kx_19_39 : x_code k_P 19 39 = some (.return_, 1) := by decide +kernel
theorem kq_19 : x_retk k_P 19 = 0 := by decide +kernel
def fS_19_m : List (Nat × Nat) := [(5, 0), (5, 1), (5, 2), (5, 3), (5, 6)]
theorem m_19 {xs : Nat → Int} {Ln d : Nat} {T : List cK} {M : cM} (hT : TT T) (hI : Rng M) : cC k_P xs Ln (d + 1) 19 [rf 5, rf 1] (T, M) (qV T M fS_19_m (fun M1 => M1 5 0 = ((2 : Nat) : Int) ∧ M1 5 2 = 0 ∧ M1 5 3 = 0)) := by
  show cP k_P xs Ln (d + 1) 19 0 [(0, rf 5), (1, rf 1)] [] (T, M) _
  have hFm : Fr fS_19_m M M := Fr.refl
  refine s_aload_n kx_19_0 rfl ?_
  refine s_aload_n kx_19_1 rfl ?_
  refine r_getR (k := 1) (f := 0) (k2 := 2) kx_19_2 kp_19_35 (tk_1 hT) kf_8_0 (by decide) (rq_1_0 hI) ?_
  refine r_put (k := 5) (f := 0) kx_19_5 kp_19_7 (tk_5 hT) kf_3_0 rfl (by decide) (by decide) hI ru_5_0 (fun M1 hI1 u1 => ?_)
  have hFm1 := hFm.up u1 rfl
  refine s_aload_n kx_19_8 rfl ?_
  refine s_aload_n kx_19_9 rfl ?_
  refine r_getI (k := 1) (f := 1) kx_19_10 kp_19_40 (tk_1 hT) kf_8_1 (fun _ => rfl) (rg_1_1 hI1) (fun v2 v2e v2a v2b => ?_)
  have v2z : M 1 1 = v2 := ((u1.2 1 1 (by omega))).symm.trans v2e
  refine s_aload_n kx_19_13 rfl ?_
  refine r_getR (k := 1) (f := 0) (k2 := 2) kx_19_14 kp_19_35 (tk_1 hT) kf_8_0 (by decide) (rq_1_0 hI1) ?_
  refine r_alen (k := 2) kx_19_17 (tk_2 hT) ⟨by decide, by decide⟩ ?_
  refine s_callS2 (s1 := 2) (s2 := 1) (as := [(0, 1600), (0, v2)]) (rest := [rf 5]) kx_19_18 kp_19_41 rfl kcl_299 rfl rfl (by decide) (m_299 (d := d) (a := v2) (b := 1600) hT hI1) (kF (fun v3 v3p => ?_))
  refine r_put (k := 5) (f := 1) kx_19_21 kp_19_13 (tk_5 hT) kf_3_1 rfl (by decide) (by decide) hI1 (ru_5_1 (by omega) (by omega)) (fun M4 hI4 u4 => ?_)
  have hFm4 := hFm1.up u4 rfl
  refine s_aload_n kx_19_24 rfl ?_
  refine s_iconst (v := 0) kx_19_25 (by decide) ?_
  refine r_put (k := 5) (f := 2) kx_19_26 kp_19_17 (tk_5 hT) kf_3_2 rfl (by decide) (by decide) hI4 (ru_5_2 (by omega) (by omega)) (fun M5 hI5 u5 => ?_)
  have hFm5 := hFm4.up u5 rfl
  refine s_aload_n kx_19_29 rfl ?_
  refine s_iconst (v := 0) kx_19_30 (by decide) ?_
  refine r_put (k := 5) (f := 3) kx_19_31 kp_19_20 (tk_5 hT) kf_3_3 rfl (by decide) (by decide) hI5 (ru_5_3 (by omega) (by omega)) (fun M6 hI6 u6 => ?_)
  have hFm6 := hFm5.up u6 rfl
  refine s_aload_n kx_19_34 rfl ?_
  refine s_iconst (v := 0) kx_19_35 (by decide) ?_
  refine r_put (k := 5) (f := 6) kx_19_36 kp_19_29 (tk_5 hT) kf_3_6 rfl (by decide) (by decide) hI6 ru_5_6 (fun M7 hI7 u7 => ?_)
  have hFm7 := hFm6.up u7 rfl
  exact s_vret kx_19_39 kq_19 ⟨_, rfl, rfl, hI7, hFm7, ⟨((u7.2 5 0 (by omega)).trans ((u6.2 5 0 (by omega)).trans ((u5.2 5 0 (by omega)).trans ((u4.2 5 0 (by omega)).trans u1.1)))), ((u7.2 5 2 (by omega)).trans ((u6.2 5 2 (by omega)).trans u5.1)), ((u7.2 5 3 (by omega)).trans u6.1)⟩⟩
theorem kx_20_0 : x_code k_P 20 0 = some (.aload_n 0, 1) := by decide +kernel
theorem kx_20_1 : x_code k_P 20 1 = some (.getfield 29, 3) := by decide +kernel
theorem kp_20_29 : x_pool k_P 20 29 = (1, 3, 6) := by decide +kernel
theorem kx_20_4 : x_code k_P 20 4 = some (.ifCond .ne 13, 3) := by decide +kernel
theorem kx_20_17 : x_code k_P 20 17 = some (.iconst 0, 1) := by decide +kernel
theorem kx_20_18 : x_code k_P 20 18 = some (.ireturn, 1) := by decide +kernel
theorem kq_20 : x_retk k_P 20 = 2 := by decide +kernel
theorem kx_20_7 : x_code k_P 20 7 = some (.aload_n 0, 1) := by decide +kernel
theorem kx_20_8 : x_code k_P 20 8 = some (.iload_n 1, 1) := by decide +kernel
theorem kx_20_9 : x_code k_P 20 9 = some (.putfield 29, 3) := by decide +kernel
theorem kx_20_12 : x_code k_P 20 12 = some (.aload_n 0, 1) := by decide +kernel
theorem kx_20_13 : x_code k_P 20 13 = some (.iload_n 2, 1) := by decide +kernel
theorem kx_20_14 : x_code k_P 20 14 = some (.putfield 32, 3) := by decide +kernel
theorem kp_20_32 : x_pool k_P 20 32 = (1, 3, 7) := by decide +kernel
theorem kf_3_7 : (x_cls k_P 3)[7]? = some 0 := by decide +kernel
def fS_20_m : List (Nat × Nat) := [(5, 6), (5, 7)]
theorem m_20 {xs : Nat → Int} {Ln d : Nat} {T : List cK} {M : cM} (hT : TT T) (hI : Rng M) {kind place : Int} : cC k_P xs Ln (d + 0) 20 [rf 5, (0, kind), (0, place)] (T, M) (qW T M fS_20_m 0 (fun v M1 => 0 ≤ v ∧ v ≤ 0)) := by
  show cP k_P xs Ln (d + 0) 20 0 [(0, rf 5), (1, (0, kind)), (2, (0, place))] [] (T, M) _
  have hFm : Fr fS_20_m M M := Fr.refl
  refine s_aload_n kx_20_0 rfl ?_
  refine r_getU (k := 5) (f := 6) kx_20_1 kp_20_29 (tk_5 hT) kf_3_6 (fun _ => rfl) (fun v1 v1e => ?_)
  refine s_if_ne (t := 17) kx_20_4 (by decide) (fun hc2 => ?_) (fun hc2 => ?_)
  · refine s_iconst (v := 0) kx_20_17 (by decide) ?_
    exact s_iret kx_20_18 (Or.inr ⟨kq_20, by omega⟩) ⟨_, _, rfl, rfl, hI, hFm, (by omega)⟩
  · refine s_aload_n kx_20_7 rfl ?_
    refine s_iload_n kx_20_8 rfl ?_
    refine r_put (k := 5) (f := 6) kx_20_9 kp_20_29 (tk_5 hT) kf_3_6 rfl (by decide) (by decide) hI ru_5_6 (fun M3 hI3 u3 => ?_)
    have hFm3 := hFm.up u3 rfl
    refine s_aload_n kx_20_12 rfl ?_
    refine s_iload_n kx_20_13 rfl ?_
    refine r_put (k := 5) (f := 7) kx_20_14 kp_20_32 (tk_5 hT) kf_3_7 rfl (by decide) (by decide) hI3 ru_5_7 (fun M4 hI4 u4 => ?_)
    have hFm4 := hFm3.up u4 rfl
    refine s_iconst (v := 0) kx_20_17 (by decide) ?_
    exact s_iret kx_20_18 (Or.inr ⟨kq_20, by omega⟩) ⟨_, _, rfl, rfl, hI4, hFm4, (by omega)⟩
theorem kx_21_0 : x_code k_P 21 0 = some (.aload_n 0, 1) := by decide +kernel
theorem kx_21_1 : x_code k_P 21 1 = some (.iconst 1, 1) := by decide +kernel
theorem kx_21_2 : x_code k_P 21 2 = some (.aload_n 0, 1) := by decide +kernel
theorem kx_21_3 : x_code k_P 21 3 = some (.getfield 26, 3) := by decide +kernel
theorem kp_21_26 : x_pool k_P 21 26 = (1, 3, 5) := by decide +kernel
theorem kf_3_5 : (x_cls k_P 3)[5]? = some 0 := by decide +kernel
theorem kx_21_6 : x_code k_P 21 6 = some (.invokevirtual 47, 3) := by decide +kernel
theorem kp_21_47 : x_pool k_P 21 47 = (2, 20, 2) := by decide +kernel
theorem ki_20 : x_mci k_P 20 = 3 := by decide +kernel
theorem kcl_20 : x_maxL k_P 20 ≤ 60 ∧ 3 ≤ x_maxL k_P 20 := by decide +kernel
theorem kx_21_9 : x_code k_P 21 9 = some (.ireturn, 1) := by decide +kernel
theorem kq_21 : x_retk k_P 21 = 2 := by decide +kernel
def fS_21_m : List (Nat × Nat) := [(5, 6), (5, 7)]
theorem m_21 {xs : Nat → Int} {Ln d : Nat} {T : List cK} {M : cM} (hT : TT T) (hI : Rng M) : cC k_P xs Ln (d + 1) 21 [rf 5] (T, M) (qW T M fS_21_m 0 (fun v M1 => 0 ≤ v ∧ v ≤ 0)) := by
  show cP k_P xs Ln (d + 1) 21 0 [(0, rf 5)] [] (T, M) _
  have hFm : Fr fS_21_m M M := Fr.refl
  refine s_aload_n kx_21_0 rfl ?_
  refine s_iconst (v := 1) kx_21_1 (by decide) ?_
  refine s_aload_n kx_21_2 rfl ?_
  refine r_getI (k := 5) (f := 5) kx_21_3 kp_21_26 (tk_5 hT) kf_3_5 (fun _ => rfl) (rg_5_5 hI) (fun v1 v1e v1a v1b => ?_)
  refine s_callV2 (k := 5) (s1 := 3) (s2 := 0) (as := [(0, v1), (0, 1)]) (rest := []) kx_21_6 kp_21_47 (Or.inl rfl) rfl (tk_5 hT) ki_20 kcl_20 rfl rfl (by decide) (m_20 (d := d) (kind := 1) (place := v1) hT hI) (kW (fun v2 M3 hI3 fr3 v2p => ?_))
  have hFm3 := hFm.call fr3 rfl
  exact s_iret kx_21_9 (Or.inr ⟨kq_21, by omega⟩) ⟨_, _, rfl, rfl, hI3, hFm3, (by omega)⟩
theorem kx_22_0 : x_code k_P 22 0 = some (.aload_n 0, 1) := by decide +kernel
theorem kx_22_1 : x_code k_P 22 1 = some (.getfield 20, 3) := by decide +kernel
theorem kp_22_20 : x_pool k_P 22 20 = (1, 3, 3) := by decide +kernel
theorem kx_22_4 : x_code k_P 22 4 = some (.iconst 1, 1) := by decide +kernel
theorem kx_22_5 : x_code k_P 22 5 = some (.if_icmp .ne 15, 3) := by decide +kernel
theorem kx_22_20 : x_code k_P 22 20 = some (.iconst 0, 1) := by decide +kernel
theorem kx_22_21 : x_code k_P 22 21 = some (.ireturn, 1) := by decide +kernel
theorem kq_22 : x_retk k_P 22 = 2 := by decide +kernel
theorem kx_22_8 : x_code k_P 22 8 = some (.aload_n 0, 1) := by decide +kernel
theorem kx_22_9 : x_code k_P 22 9 = some (.getfield 23, 3) := by decide +kernel
theorem kp_22_23 : x_pool k_P 22 23 = (1, 3, 4) := by decide +kernel
theorem kf_3_4 : (x_cls k_P 3)[4]? = some 0 := by decide +kernel
theorem kx_22_12 : x_code k_P 22 12 = some (.iload_n 1, 1) := by decide +kernel
theorem kx_22_13 : x_code k_P 22 13 = some (.if_icmp .ne 7, 3) := by decide +kernel
theorem kx_22_16 : x_code k_P 22 16 = some (.iconst 1, 1) := by decide +kernel
theorem kx_22_17 : x_code k_P 22 17 = some (.goto 4, 3) := by decide +kernel
theorem m_22 {xs : Nat → Int} {Ln d : Nat} {T : List cK} {M : cM} (hT : TT T) (hI : Rng M) {w : Int} : cC k_P xs Ln (d + 0) 22 [rf 5, (0, w)] (T, M) (qF T M 0 (fun v => (v = 1 ∧ M 5 3 = 1) ∨ v = 0)) := by
  show cP k_P xs Ln (d + 0) 22 0 [(0, rf 5), (1, (0, w))] [] (T, M) _
  refine s_aload_n kx_22_0 rfl ?_
  refine r_getI (k := 5) (f := 3) kx_22_1 kp_22_20 (tk_5 hT) kf_3_3 (fun _ => rfl) (rg_5_3 hI) (fun v1 v1e v1a v1b => ?_)
  refine s_iconst (v := 1) kx_22_4 (by decide) ?_
  refine s_icmp_ne (t := 20) kx_22_5 (by decide) (fun hc2 => ?_) (fun hc2 => ?_)
  · refine s_iconst (v := 0) kx_22_20 (by decide) ?_
    exact s_iret kx_22_21 (Or.inr ⟨kq_22, by omega⟩) ⟨_, rfl, rfl, (by omega)⟩
  · refine s_aload_n kx_22_8 rfl ?_
    refine r_getU (k := 5) (f := 4) kx_22_9 kp_22_23 (tk_5 hT) kf_3_4 (fun _ => rfl) (fun v3 v3e => ?_)
    refine s_iload_n kx_22_12 rfl ?_
    refine s_icmp_ne (t := 20) kx_22_13 (by decide) (fun hc4 => ?_) (fun hc4 => ?_)
    · refine s_iconst (v := 0) kx_22_20 (by decide) ?_
      exact s_iret kx_22_21 (Or.inr ⟨kq_22, by omega⟩) ⟨_, rfl, rfl, (by omega)⟩
    · refine s_iconst (v := 1) kx_22_16 (by decide) ?_
      refine s_goto (t := 21) kx_22_17 (by decide) ?_
      exact s_iret kx_22_21 (Or.inr ⟨kq_22, by omega⟩) ⟨_, rfl, rfl, (by omega)⟩
theorem kx_23_0 : x_code k_P 23 0 = some (.aload_n 0, 1) := by decide +kernel
theorem kx_23_1 : x_code k_P 23 1 = some (.getfield 20, 3) := by decide +kernel
theorem kp_23_20 : x_pool k_P 23 20 = (1, 3, 3) := by decide +kernel
theorem kx_23_4 : x_code k_P 23 4 = some (.iconst 4, 1) := by decide +kernel
theorem kx_23_5 : x_code k_P 23 5 = some (.if_icmp .ne 15, 3) := by decide +kernel
theorem kx_23_20 : x_code k_P 23 20 = some (.iconst 0, 1) := by decide +kernel
theorem kx_23_21 : x_code k_P 23 21 = some (.ireturn, 1) := by decide +kernel
theorem kq_23 : x_retk k_P 23 = 2 := by decide +kernel
theorem kx_23_8 : x_code k_P 23 8 = some (.aload_n 0, 1) := by decide +kernel
theorem kx_23_9 : x_code k_P 23 9 = some (.getfield 23, 3) := by decide +kernel
theorem kp_23_23 : x_pool k_P 23 23 = (1, 3, 4) := by decide +kernel
theorem kx_23_12 : x_code k_P 23 12 = some (.iload_n 1, 1) := by decide +kernel
theorem kx_23_13 : x_code k_P 23 13 = some (.if_icmp .ne 7, 3) := by decide +kernel
theorem kx_23_16 : x_code k_P 23 16 = some (.iconst 1, 1) := by decide +kernel
theorem kx_23_17 : x_code k_P 23 17 = some (.goto 4, 3) := by decide +kernel
theorem m_23 {xs : Nat → Int} {Ln d : Nat} {T : List cK} {M : cM} (hT : TT T) (hI : Rng M) {c : Int} : cC k_P xs Ln (d + 0) 23 [rf 5, (0, c)] (T, M) (qF T M 0 (fun v => (v = 1 ∧ M 5 3 = 4) ∨ v = 0)) := by
  show cP k_P xs Ln (d + 0) 23 0 [(0, rf 5), (1, (0, c))] [] (T, M) _
  refine s_aload_n kx_23_0 rfl ?_
  refine r_getI (k := 5) (f := 3) kx_23_1 kp_23_20 (tk_5 hT) kf_3_3 (fun _ => rfl) (rg_5_3 hI) (fun v1 v1e v1a v1b => ?_)
  refine s_iconst (v := 4) kx_23_4 (by decide) ?_
  refine s_icmp_ne (t := 20) kx_23_5 (by decide) (fun hc2 => ?_) (fun hc2 => ?_)
  · refine s_iconst (v := 0) kx_23_20 (by decide) ?_
    exact s_iret kx_23_21 (Or.inr ⟨kq_23, by omega⟩) ⟨_, rfl, rfl, (by omega)⟩
  · refine s_aload_n kx_23_8 rfl ?_
    refine r_getU (k := 5) (f := 4) kx_23_9 kp_23_23 (tk_5 hT) kf_3_4 (fun _ => rfl) (fun v3 v3e => ?_)
    refine s_iload_n kx_23_12 rfl ?_
    refine s_icmp_ne (t := 20) kx_23_13 (by decide) (fun hc4 => ?_) (fun hc4 => ?_)
    · refine s_iconst (v := 0) kx_23_20 (by decide) ?_
      exact s_iret kx_23_21 (Or.inr ⟨kq_23, by omega⟩) ⟨_, rfl, rfl, (by omega)⟩
    · refine s_iconst (v := 1) kx_23_16 (by decide) ?_
      refine s_goto (t := 21) kx_23_17 (by decide) ?_
      exact s_iret kx_23_21 (Or.inr ⟨kq_23, by omega⟩) ⟨_, rfl, rfl, (by omega)⟩
theorem kx_30_0 : x_code k_P 30 0 = some (.iload_n 0, 1) := by decide +kernel
theorem kx_30_1 : x_code k_P 30 1 = some (.bipush 97, 2) := by decide +kernel
theorem kx_30_3 : x_code k_P 30 3 = some (.if_icmp .lt 13, 3) := by decide +kernel
theorem kx_30_16 : x_code k_P 30 16 = some (.iconst 0, 1) := by decide +kernel
theorem kx_30_17 : x_code k_P 30 17 = some (.ireturn, 1) := by decide +kernel
theorem kq_30 : x_retk k_P 30 = 2 := by decide +kernel
theorem kx_30_6 : x_code k_P 30 6 = some (.iload_n 0, 1) := by decide +kernel
theorem kx_30_7 : x_code k_P 30 7 = some (.bipush 122, 2) := by decide +kernel
theorem kx_30_9 : x_code k_P 30 9 = some (.if_icmp .gt 7, 3) := by decide +kernel
theorem kx_30_12 : x_code k_P 30 12 = some (.iconst 1, 1) := by decide +kernel
theorem kx_30_13 : x_code k_P 30 13 = some (.goto 4, 3) := by decide +kernel
theorem m_30 {xs : Nat → Int} {Ln d : Nat} {T : List cK} {M : cM} (hT : TT T) (hI : Rng M) {c : Int} : cC k_P xs Ln (d + 0) 30 [(0, c)] (T, M) (qF T M 0 (fun v => (v = 1 ∧ 97 ≤ c ∧ c ≤ 122) ∨ (v = 0 ∧ (c < 97 ∨ 122 < c)))) := by
  show cP k_P xs Ln (d + 0) 30 0 [(0, (0, c))] [] (T, M) _
  refine s_iload_n kx_30_0 rfl ?_
  refine s_bipush (v := 97) kx_30_1 (by decide) ?_
  refine s_icmp_lt (t := 16) kx_30_3 (by decide) (fun hc1 => ?_) (fun hc1 => ?_)
  · refine s_iconst (v := 0) kx_30_16 (by decide) ?_
    exact s_iret kx_30_17 (Or.inr ⟨kq_30, by omega⟩) ⟨_, rfl, rfl, (by omega)⟩
  · refine s_iload_n kx_30_6 rfl ?_
    refine s_bipush (v := 122) kx_30_7 (by decide) ?_
    refine s_icmp_gt (t := 16) kx_30_9 (by decide) (fun hc2 => ?_) (fun hc2 => ?_)
    · refine s_iconst (v := 0) kx_30_16 (by decide) ?_
      exact s_iret kx_30_17 (Or.inr ⟨kq_30, by omega⟩) ⟨_, rfl, rfl, (by omega)⟩
    · refine s_iconst (v := 1) kx_30_12 (by decide) ?_
      refine s_goto (t := 17) kx_30_13 (by decide) ?_
      exact s_iret kx_30_17 (Or.inr ⟨kq_30, by omega⟩) ⟨_, rfl, rfl, (by omega)⟩
theorem kx_31_0 : x_code k_P 31 0 = some (.iload_n 0, 1) := by decide +kernel
theorem kx_31_1 : x_code k_P 31 1 = some (.bipush 48, 2) := by decide +kernel
theorem kx_31_3 : x_code k_P 31 3 = some (.if_icmp .lt 13, 3) := by decide +kernel
theorem kx_31_16 : x_code k_P 31 16 = some (.iconst 0, 1) := by decide +kernel
theorem kx_31_17 : x_code k_P 31 17 = some (.ireturn, 1) := by decide +kernel
theorem kq_31 : x_retk k_P 31 = 2 := by decide +kernel
theorem kx_31_6 : x_code k_P 31 6 = some (.iload_n 0, 1) := by decide +kernel
theorem kx_31_7 : x_code k_P 31 7 = some (.bipush 57, 2) := by decide +kernel
theorem kx_31_9 : x_code k_P 31 9 = some (.if_icmp .gt 7, 3) := by decide +kernel
theorem kx_31_12 : x_code k_P 31 12 = some (.iconst 1, 1) := by decide +kernel
theorem kx_31_13 : x_code k_P 31 13 = some (.goto 4, 3) := by decide +kernel
theorem m_31 {xs : Nat → Int} {Ln d : Nat} {T : List cK} {M : cM} (hT : TT T) (hI : Rng M) {c : Int} : cC k_P xs Ln (d + 0) 31 [(0, c)] (T, M) (qF T M 0 (fun v => (v = 1 ∧ 48 ≤ c ∧ c ≤ 57) ∨ (v = 0 ∧ (c < 48 ∨ 57 < c)))) := by
  show cP k_P xs Ln (d + 0) 31 0 [(0, (0, c))] [] (T, M) _
  refine s_iload_n kx_31_0 rfl ?_
  refine s_bipush (v := 48) kx_31_1 (by decide) ?_
  refine s_icmp_lt (t := 16) kx_31_3 (by decide) (fun hc1 => ?_) (fun hc1 => ?_)
  · refine s_iconst (v := 0) kx_31_16 (by decide) ?_
    exact s_iret kx_31_17 (Or.inr ⟨kq_31, by omega⟩) ⟨_, rfl, rfl, (by omega)⟩
  · refine s_iload_n kx_31_6 rfl ?_
    refine s_bipush (v := 57) kx_31_7 (by decide) ?_
    refine s_icmp_gt (t := 16) kx_31_9 (by decide) (fun hc2 => ?_) (fun hc2 => ?_)
    · refine s_iconst (v := 0) kx_31_16 (by decide) ?_
      exact s_iret kx_31_17 (Or.inr ⟨kq_31, by omega⟩) ⟨_, rfl, rfl, (by omega)⟩
    · refine s_iconst (v := 1) kx_31_12 (by decide) ?_
      refine s_goto (t := 17) kx_31_13 (by decide) ?_
      exact s_iret kx_31_17 (Or.inr ⟨kq_31, by omega⟩) ⟨_, rfl, rfl, (by omega)⟩
theorem kx_29_0 : x_code k_P 29 0 = some (.iload_n 0, 1) := by decide +kernel
theorem kx_29_1 : x_code k_P 29 1 = some (.lookupswitch 205 #[(46530560, 203), (48365568, 203), (54525952, 203), (86148467, 203), (109094464, 203), (113741152, 203), (150456320, 203), (214416960, 203), (308281344, 203), (351582372, 203), (438042624, 203), (446103552, 203), (486146048, 203), (522190848, 203), (527892480, 203), (542723566, 203), (620213248, 203), (650632192, 203), (658552979, 203), (659111367, 203), (672503392, 203), (773619712, 203), (777297172, 203), (781325312, 203)], 203) := by decide +kernel
theorem kx_29_206 : x_code k_P 29 206 = some (.iconst 0, 1) := by decide +kernel
theorem kx_29_207 : x_code k_P 29 207 = some (.ireturn, 1) := by decide +kernel
theorem kq_29 : x_retk k_P 29 = 2 := by decide +kernel
theorem kx_29_204 : x_code k_P 29 204 = some (.iconst 1, 1) := by decide +kernel
theorem kx_29_205 : x_code k_P 29 205 = some (.ireturn, 1) := by decide +kernel
theorem m_29 {xs : Nat → Int} {Ln d : Nat} {T : List cK} {M : cM} (hT : TT T) (hI : Rng M) {w : Int} : cC k_P xs Ln (d + 0) 29 [(0, w)] (T, M) (qF T M 0 (fun v => 0 ≤ v ∧ v ≤ 1)) := by
  show cP k_P xs Ln (d + 0) 29 0 [(0, (0, w))] [] (T, M) _
  refine s_iload_n kx_29_0 rfl ?_
  refine s_lswA kx_29_1 (by decide) (by decide) ?_ (And.intro (fun hs1 => ?_) (And.intro (fun hs1 => ?_) (And.intro (fun hs1 => ?_) (And.intro (fun hs1 => ?_) (And.intro (fun hs1 => ?_) (And.intro (fun hs1 => ?_) (And.intro (fun hs1 => ?_) (And.intro (fun hs1 => ?_) (And.intro (fun hs1 => ?_) (And.intro (fun hs1 => ?_) (And.intro (fun hs1 => ?_) (And.intro (fun hs1 => ?_) (And.intro (fun hs1 => ?_) (And.intro (fun hs1 => ?_) (And.intro (fun hs1 => ?_) (And.intro (fun hs1 => ?_) (And.intro (fun hs1 => ?_) (And.intro (fun hs1 => ?_) (And.intro (fun hs1 => ?_) (And.intro (fun hs1 => ?_) (And.intro (fun hs1 => ?_) (And.intro (fun hs1 => ?_) (And.intro (fun hs1 => ?_) (And.intro (fun hs1 => ?_) trivial))))))))))))))))))))))))
  · show cP k_P xs Ln (d + 0) 29 206 [(0, (0, w))] [] (T, M) (qF T M 0 (fun v => 0 ≤ v ∧ v ≤ 1))
    refine s_iconst (v := 0) kx_29_206 (by decide) ?_
    exact s_iret kx_29_207 (Or.inr ⟨kq_29, by omega⟩) ⟨_, rfl, rfl, (by omega)⟩
  · show cP k_P xs Ln (d + 0) 29 204 [(0, (0, w))] [] (T, M) (qF T M 0 (fun v => 0 ≤ v ∧ v ≤ 1))
    refine s_iconst (v := 1) kx_29_204 (by decide) ?_
    exact s_iret kx_29_205 (Or.inr ⟨kq_29, by omega⟩) ⟨_, rfl, rfl, (by omega)⟩
  · show cP k_P xs Ln (d + 0) 29 204 [(0, (0, w))] [] (T, M) (qF T M 0 (fun v => 0 ≤ v ∧ v ≤ 1))
    refine s_iconst (v := 1) kx_29_204 (by decide) ?_
    exact s_iret kx_29_205 (Or.inr ⟨kq_29, by omega⟩) ⟨_, rfl, rfl, (by omega)⟩
  · show cP k_P xs Ln (d + 0) 29 204 [(0, (0, w))] [] (T, M) (qF T M 0 (fun v => 0 ≤ v ∧ v ≤ 1))
    refine s_iconst (v := 1) kx_29_204 (by decide) ?_
    exact s_iret kx_29_205 (Or.inr ⟨kq_29, by omega⟩) ⟨_, rfl, rfl, (by omega)⟩
  · show cP k_P xs Ln (d + 0) 29 204 [(0, (0, w))] [] (T, M) (qF T M 0 (fun v => 0 ≤ v ∧ v ≤ 1))
    refine s_iconst (v := 1) kx_29_204 (by decide) ?_
    exact s_iret kx_29_205 (Or.inr ⟨kq_29, by omega⟩) ⟨_, rfl, rfl, (by omega)⟩
  · show cP k_P xs Ln (d + 0) 29 204 [(0, (0, w))] [] (T, M) (qF T M 0 (fun v => 0 ≤ v ∧ v ≤ 1))
    refine s_iconst (v := 1) kx_29_204 (by decide) ?_
    exact s_iret kx_29_205 (Or.inr ⟨kq_29, by omega⟩) ⟨_, rfl, rfl, (by omega)⟩
  · show cP k_P xs Ln (d + 0) 29 204 [(0, (0, w))] [] (T, M) (qF T M 0 (fun v => 0 ≤ v ∧ v ≤ 1))
    refine s_iconst (v := 1) kx_29_204 (by decide) ?_
    exact s_iret kx_29_205 (Or.inr ⟨kq_29, by omega⟩) ⟨_, rfl, rfl, (by omega)⟩
  · show cP k_P xs Ln (d + 0) 29 204 [(0, (0, w))] [] (T, M) (qF T M 0 (fun v => 0 ≤ v ∧ v ≤ 1))
    refine s_iconst (v := 1) kx_29_204 (by decide) ?_
    exact s_iret kx_29_205 (Or.inr ⟨kq_29, by omega⟩) ⟨_, rfl, rfl, (by omega)⟩
  · show cP k_P xs Ln (d + 0) 29 204 [(0, (0, w))] [] (T, M) (qF T M 0 (fun v => 0 ≤ v ∧ v ≤ 1))
    refine s_iconst (v := 1) kx_29_204 (by decide) ?_
    exact s_iret kx_29_205 (Or.inr ⟨kq_29, by omega⟩) ⟨_, rfl, rfl, (by omega)⟩
  · show cP k_P xs Ln (d + 0) 29 204 [(0, (0, w))] [] (T, M) (qF T M 0 (fun v => 0 ≤ v ∧ v ≤ 1))
    refine s_iconst (v := 1) kx_29_204 (by decide) ?_
    exact s_iret kx_29_205 (Or.inr ⟨kq_29, by omega⟩) ⟨_, rfl, rfl, (by omega)⟩
  · show cP k_P xs Ln (d + 0) 29 204 [(0, (0, w))] [] (T, M) (qF T M 0 (fun v => 0 ≤ v ∧ v ≤ 1))
    refine s_iconst (v := 1) kx_29_204 (by decide) ?_
    exact s_iret kx_29_205 (Or.inr ⟨kq_29, by omega⟩) ⟨_, rfl, rfl, (by omega)⟩
  · show cP k_P xs Ln (d + 0) 29 204 [(0, (0, w))] [] (T, M) (qF T M 0 (fun v => 0 ≤ v ∧ v ≤ 1))
    refine s_iconst (v := 1) kx_29_204 (by decide) ?_
    exact s_iret kx_29_205 (Or.inr ⟨kq_29, by omega⟩) ⟨_, rfl, rfl, (by omega)⟩
  · show cP k_P xs Ln (d + 0) 29 204 [(0, (0, w))] [] (T, M) (qF T M 0 (fun v => 0 ≤ v ∧ v ≤ 1))
    refine s_iconst (v := 1) kx_29_204 (by decide) ?_
    exact s_iret kx_29_205 (Or.inr ⟨kq_29, by omega⟩) ⟨_, rfl, rfl, (by omega)⟩
  · show cP k_P xs Ln (d + 0) 29 204 [(0, (0, w))] [] (T, M) (qF T M 0 (fun v => 0 ≤ v ∧ v ≤ 1))
    refine s_iconst (v := 1) kx_29_204 (by decide) ?_
    exact s_iret kx_29_205 (Or.inr ⟨kq_29, by omega⟩) ⟨_, rfl, rfl, (by omega)⟩
  · show cP k_P xs Ln (d + 0) 29 204 [(0, (0, w))] [] (T, M) (qF T M 0 (fun v => 0 ≤ v ∧ v ≤ 1))
    refine s_iconst (v := 1) kx_29_204 (by decide) ?_
    exact s_iret kx_29_205 (Or.inr ⟨kq_29, by omega⟩) ⟨_, rfl, rfl, (by omega)⟩
  · show cP k_P xs Ln (d + 0) 29 204 [(0, (0, w))] [] (T, M) (qF T M 0 (fun v => 0 ≤ v ∧ v ≤ 1))
    refine s_iconst (v := 1) kx_29_204 (by decide) ?_
    exact s_iret kx_29_205 (Or.inr ⟨kq_29, by omega⟩) ⟨_, rfl, rfl, (by omega)⟩
  · show cP k_P xs Ln (d + 0) 29 204 [(0, (0, w))] [] (T, M) (qF T M 0 (fun v => 0 ≤ v ∧ v ≤ 1))
    refine s_iconst (v := 1) kx_29_204 (by decide) ?_
    exact s_iret kx_29_205 (Or.inr ⟨kq_29, by omega⟩) ⟨_, rfl, rfl, (by omega)⟩
  · show cP k_P xs Ln (d + 0) 29 204 [(0, (0, w))] [] (T, M) (qF T M 0 (fun v => 0 ≤ v ∧ v ≤ 1))
    refine s_iconst (v := 1) kx_29_204 (by decide) ?_
    exact s_iret kx_29_205 (Or.inr ⟨kq_29, by omega⟩) ⟨_, rfl, rfl, (by omega)⟩
  · show cP k_P xs Ln (d + 0) 29 204 [(0, (0, w))] [] (T, M) (qF T M 0 (fun v => 0 ≤ v ∧ v ≤ 1))
    refine s_iconst (v := 1) kx_29_204 (by decide) ?_
    exact s_iret kx_29_205 (Or.inr ⟨kq_29, by omega⟩) ⟨_, rfl, rfl, (by omega)⟩
  · show cP k_P xs Ln (d + 0) 29 204 [(0, (0, w))] [] (T, M) (qF T M 0 (fun v => 0 ≤ v ∧ v ≤ 1))
    refine s_iconst (v := 1) kx_29_204 (by decide) ?_
    exact s_iret kx_29_205 (Or.inr ⟨kq_29, by omega⟩) ⟨_, rfl, rfl, (by omega)⟩
  · show cP k_P xs Ln (d + 0) 29 204 [(0, (0, w))] [] (T, M) (qF T M 0 (fun v => 0 ≤ v ∧ v ≤ 1))
    refine s_iconst (v := 1) kx_29_204 (by decide) ?_
    exact s_iret kx_29_205 (Or.inr ⟨kq_29, by omega⟩) ⟨_, rfl, rfl, (by omega)⟩
  · show cP k_P xs Ln (d + 0) 29 204 [(0, (0, w))] [] (T, M) (qF T M 0 (fun v => 0 ≤ v ∧ v ≤ 1))
    refine s_iconst (v := 1) kx_29_204 (by decide) ?_
    exact s_iret kx_29_205 (Or.inr ⟨kq_29, by omega⟩) ⟨_, rfl, rfl, (by omega)⟩
  · show cP k_P xs Ln (d + 0) 29 204 [(0, (0, w))] [] (T, M) (qF T M 0 (fun v => 0 ≤ v ∧ v ≤ 1))
    refine s_iconst (v := 1) kx_29_204 (by decide) ?_
    exact s_iret kx_29_205 (Or.inr ⟨kq_29, by omega⟩) ⟨_, rfl, rfl, (by omega)⟩
  · show cP k_P xs Ln (d + 0) 29 204 [(0, (0, w))] [] (T, M) (qF T M 0 (fun v => 0 ≤ v ∧ v ≤ 1))
    refine s_iconst (v := 1) kx_29_204 (by decide) ?_
    exact s_iret kx_29_205 (Or.inr ⟨kq_29, by omega⟩) ⟨_, rfl, rfl, (by omega)⟩
  · show cP k_P xs Ln (d + 0) 29 204 [(0, (0, w))] [] (T, M) (qF T M 0 (fun v => 0 ≤ v ∧ v ≤ 1))
    refine s_iconst (v := 1) kx_29_204 (by decide) ?_
    exact s_iret kx_29_205 (Or.inr ⟨kq_29, by omega⟩) ⟨_, rfl, rfl, (by omega)⟩
theorem kx_25_0 : x_code k_P 25 0 = some (.aload_n 0, 1) := by decide +kernel
theorem kx_25_1 : x_code k_P 25 1 = some (.getfield 17, 3) := by decide +kernel
theorem kp_25_17 : x_pool k_P 25 17 = (1, 3, 2) := by decide +kernel
theorem kx_25_4 : x_code k_P 25 4 = some (.aload_n 0, 1) := by decide +kernel
theorem kx_25_5 : x_code k_P 25 5 = some (.getfield 13, 3) := by decide +kernel
theorem kp_25_13 : x_pool k_P 25 13 = (1, 3, 1) := by decide +kernel
theorem kx_25_8 : x_code k_P 25 8 = some (.if_icmp .ge 44, 3) := by decide +kernel
theorem kx_25_52 : x_code k_P 25 52 = some (.aload_n 0, 1) := by decide +kernel
theorem kx_25_53 : x_code k_P 25 53 = some (.getfield 17, 3) := by decide +kernel
theorem kx_25_56 : x_code k_P 25 56 = some (.aload_n 0, 1) := by decide +kernel
theorem kx_25_57 : x_code k_P 25 57 = some (.getfield 13, 3) := by decide +kernel
theorem kx_25_60 : x_code k_P 25 60 = some (.if_icmp .lt 7, 3) := by decide +kernel
theorem kx_25_67 : x_code k_P 25 67 = some (.iconst 0, 1) := by decide +kernel
theorem kx_25_68 : x_code k_P 25 68 = some (.ireturn, 1) := by decide +kernel
theorem kq_25 : x_retk k_P 25 = 2 := by decide +kernel
theorem kx_25_63 : x_code k_P 25 63 = some (.iconst 1, 1) := by decide +kernel
theorem kx_25_64 : x_code k_P 25 64 = some (.goto 4, 3) := by decide +kernel
theorem kx_25_11 : x_code k_P 25 11 = some (.aload_n 0, 1) := by decide +kernel
theorem kx_25_12 : x_code k_P 25 12 = some (.getfield 7, 3) := by decide +kernel
theorem kp_25_7 : x_pool k_P 25 7 = (1, 3, 0) := by decide +kernel
theorem kx_25_15 : x_code k_P 25 15 = some (.aload_n 0, 1) := by decide +kernel
theorem kx_25_16 : x_code k_P 25 16 = some (.getfield 17, 3) := by decide +kernel
theorem kx_25_19 : x_code k_P 25 19 = some (.iaload, 1) := by decide +kernel
theorem kx_25_20 : x_code k_P 25 20 = some (.bipush 10, 2) := by decide +kernel
theorem kx_25_22 : x_code k_P 25 22 = some (.if_icmp .eq 17, 3) := by decide +kernel
theorem kx_25_39 : x_code k_P 25 39 = some (.aload_n 0, 1) := by decide +kernel
theorem kx_25_40 : x_code k_P 25 40 = some (.dup, 1) := by decide +kernel
theorem kx_25_41 : x_code k_P 25 41 = some (.getfield 17, 3) := by decide +kernel
theorem kx_25_44 : x_code k_P 25 44 = some (.iconst 1, 1) := by decide +kernel
theorem kx_25_45 : x_code k_P 25 45 = some (.iadd, 1) := by decide +kernel
theorem kx_25_46 : x_code k_P 25 46 = some (.putfield 17, 3) := by decide +kernel
theorem kx_25_49 : x_code k_P 25 49 = some (.goto (-49), 3) := by decide +kernel
theorem kx_25_25 : x_code k_P 25 25 = some (.aload_n 0, 1) := by decide +kernel
theorem kx_25_26 : x_code k_P 25 26 = some (.getfield 7, 3) := by decide +kernel
theorem kx_25_29 : x_code k_P 25 29 = some (.aload_n 0, 1) := by decide +kernel
theorem kx_25_30 : x_code k_P 25 30 = some (.getfield 17, 3) := by decide +kernel
theorem kx_25_33 : x_code k_P 25 33 = some (.iaload, 1) := by decide +kernel
theorem kx_25_34 : x_code k_P 25 34 = some (.bipush 32, 2) := by decide +kernel
theorem kx_25_36 : x_code k_P 25 36 = some (.if_icmp .ne 16, 3) := by decide +kernel
def fS_25_l0 : List (Nat × Nat) := [(5, 2)]
def fS_25_m : List (Nat × Nat) := [(5, 2)]
theorem m_25 {xs : Nat → Int} {Ln d : Nat} {T : List cK} {M : cM} (hT : TT T) (hI : Rng M) (h50 : M 5 0 = ((2 : Nat) : Int)) : cC k_P xs Ln (d + 0) 25 [rf 5] (T, M) (qW T M fS_25_m 0 (fun v M1 => (v = 1 ∧ M 5 2 ≤ M1 5 2) ∨ (v = 0 ∧ M 5 2 ≤ M1 5 2 ∧ M1 5 2 < M1 5 1))) := by
  show cP k_P xs Ln (d + 0) 25 0 [(0, rf 5)] [] (T, M) _
  have hFm : Fr fS_25_m M M := Fr.refl
  have key2 : ∀ n3 : Nat, ∀ M1 : cM, Rng M1 → Fr fS_25_m M M1 → Fr fS_25_l0 M M1 → (M 5 2 ≤ M1 5 2) → (1600 - M1 5 2).toNat < n3 → cP k_P xs Ln (d + 0) 25 0 [(0, rf 5)] [] (T, M1) (qW T M fS_25_m 0 (fun v M1 => (v = 1 ∧ M 5 2 ≤ M1 5 2) ∨ (v = 0 ∧ M 5 2 ≤ M1 5 2 ∧ M1 5 2 < M1 5 1))) := by
    intro n3
    induction n3 with
    | zero => intro M1 hI1 hFm1 fl1 i4 hm5; exact absurd hm5 (Nat.not_lt_zero _)
    | succ n3 ih6 =>
      intro M1 hI1 hFm1 fl1 i4 hm5
      refine s_aload_n kx_25_0 rfl ?_
      refine r_getI (k := 5) (f := 2) kx_25_1 kp_25_17 (tk_5 hT) kf_3_2 (fun _ => rfl) (rg_5_2 hI1) (fun v7 v7e v7a v7b => ?_)
      refine s_aload_n kx_25_4 rfl ?_
      refine r_getI (k := 5) (f := 1) kx_25_5 kp_25_13 (tk_5 hT) kf_3_1 (fun _ => rfl) (rg_5_1 hI1) (fun v8 v8e v8a v8b => ?_)
      have v8z : M 5 1 = v8 := ((fl1 5 1 rfl)).symm.trans v8e
      refine s_icmp_ge (t := 52) kx_25_8 (by decide) (fun hc9 => ?_) (fun hc9 => ?_)
      · refine s_aload_n kx_25_52 rfl ?_
        refine r_getK (k := 5) (f := 2) kx_25_53 kp_25_17 (tk_5 hT) kf_3_2 (fun _ => rfl) v7e ?_
        refine s_aload_n kx_25_56 rfl ?_
        refine r_getK (k := 5) (f := 1) kx_25_57 kp_25_13 (tk_5 hT) kf_3_1 (fun _ => rfl) v8e ?_
        refine s_icmp_lt (t := 67) kx_25_60 (by decide) (fun hc10 => ?_) (fun hc10 => ?_)
        · refine s_iconst (v := 0) kx_25_67 (by decide) ?_
          exact s_iret kx_25_68 (Or.inr ⟨kq_25, by omega⟩) ⟨_, _, rfl, rfl, hI1, hFm1, (by omega)⟩
        · refine s_iconst (v := 1) kx_25_63 (by decide) ?_
          refine s_goto (t := 68) kx_25_64 (by decide) ?_
          exact s_iret kx_25_68 (Or.inr ⟨kq_25, by omega⟩) ⟨_, _, rfl, rfl, hI1, hFm1, (by omega)⟩
      · refine s_aload_n kx_25_11 rfl ?_
        refine r_getR (k := 5) (f := 0) (k2 := 2) kx_25_12 kp_25_7 (tk_5 hT) kf_3_0 (by decide) ((fl1 5 0 rfl).trans h50) ?_
        refine s_aload_n kx_25_15 rfl ?_
        refine r_getK (k := 5) (f := 2) kx_25_16 kp_25_17 (tk_5 hT) kf_3_2 (fun _ => rfl) v7e ?_
        refine r_ald (k := 2) kx_25_19 (tk_2 hT) ⟨by omega, by omega⟩ (rg_2 hI1) (fun v11 v11e v11a v11b => ?_)
        refine s_bipush (v := 10) kx_25_20 (by decide) ?_
        refine s_icmp_eq (t := 39) kx_25_22 (by decide) (fun hc12 => ?_) (fun hc12 => ?_)
        · refine s_aload_n kx_25_39 rfl ?_
          refine s_dup kx_25_40 rfl ?_
          refine r_getK (k := 5) (f := 2) kx_25_41 kp_25_17 (tk_5 hT) kf_3_2 (fun _ => rfl) v7e ?_
          refine s_iconst (v := 1) kx_25_44 (by decide) ?_
          refine r_add kx_25_45 ⟨by omega, by omega⟩ ?_
          refine r_put (k := 5) (f := 2) kx_25_46 kp_25_17 (tk_5 hT) kf_3_2 rfl (by decide) (by decide) hI1 (ru_5_2 (by omega) (by omega)) (fun M13 hI13 u13 => ?_)
          have hFm13 := hFm1.up u13 rfl
          have hFl013 := fl1.up u13 rfl
          refine s_goto (t := 0) kx_25_49 (by decide) ?_
          have hk14 : M13 5 2 = (v7 + 1) := u13.1
          exact cP.wk (lS1 rfl lS0) (ih6 M13 hI13 hFm13 hFl013 (by omega) (by omega))
        · refine s_aload_n kx_25_25 rfl ?_
          refine r_getR (k := 5) (f := 0) (k2 := 2) kx_25_26 kp_25_7 (tk_5 hT) kf_3_0 (by decide) ((fl1 5 0 rfl).trans h50) ?_
          refine s_aload_n kx_25_29 rfl ?_
          refine r_getK (k := 5) (f := 2) kx_25_30 kp_25_17 (tk_5 hT) kf_3_2 (fun _ => rfl) v7e ?_
          refine r_aldK (k := 2) kx_25_33 (tk_2 hT) ⟨by omega, by omega⟩ v11e ?_
          refine s_bipush (v := 32) kx_25_34 (by decide) ?_
          refine s_icmp_ne (t := 52) kx_25_36 (by decide) (fun hc15 => ?_) (fun hc15 => ?_)
          · refine s_aload_n kx_25_52 rfl ?_
            refine r_getK (k := 5) (f := 2) kx_25_53 kp_25_17 (tk_5 hT) kf_3_2 (fun _ => rfl) v7e ?_
            refine s_aload_n kx_25_56 rfl ?_
            refine r_getK (k := 5) (f := 1) kx_25_57 kp_25_13 (tk_5 hT) kf_3_1 (fun _ => rfl) v8e ?_
            refine s_icmp_lt (t := 67) kx_25_60 (by decide) (fun hc16 => ?_) (fun hc16 => ?_)
            · refine s_iconst (v := 0) kx_25_67 (by decide) ?_
              exact s_iret kx_25_68 (Or.inr ⟨kq_25, by omega⟩) ⟨_, _, rfl, rfl, hI1, hFm1, (by omega)⟩
            · refine s_iconst (v := 1) kx_25_63 (by decide) ?_
              refine s_goto (t := 68) kx_25_64 (by decide) ?_
              exact s_iret kx_25_68 (Or.inr ⟨kq_25, by omega⟩) ⟨_, _, rfl, rfl, hI1, hFm1, (by omega)⟩
          · refine s_aload_n kx_25_39 rfl ?_
            refine s_dup kx_25_40 rfl ?_
            refine r_getK (k := 5) (f := 2) kx_25_41 kp_25_17 (tk_5 hT) kf_3_2 (fun _ => rfl) v7e ?_
            refine s_iconst (v := 1) kx_25_44 (by decide) ?_
            refine r_add kx_25_45 ⟨by omega, by omega⟩ ?_
            refine r_put (k := 5) (f := 2) kx_25_46 kp_25_17 (tk_5 hT) kf_3_2 rfl (by decide) (by decide) hI1 (ru_5_2 (by omega) (by omega)) (fun M17 hI17 u17 => ?_)
            have hFm17 := hFm1.up u17 rfl
            have hFl017 := fl1.up u17 rfl
            refine s_goto (t := 0) kx_25_49 (by decide) ?_
            have hk18 : M17 5 2 = (v7 + 1) := u17.1
            exact cP.wk (lS1 rfl lS0) (ih6 M17 hI17 hFm17 hFl017 (by omega) (by omega))
  exact cP.wk (lS1 rfl lS0) (key2 _ M hI hFm Fr.refl (by omega) (Nat.lt_succ_self _))
theorem kx_27_0 : x_code k_P 27 0 = some (.lconst 0, 1) := by decide +kernel
theorem kx_27_1 : x_code k_P 27 1 = some (.lstore_n 1, 1) := by decide +kernel
theorem km_27_2 : 2 < x_maxL k_P 27 := by decide +kernel
theorem kx_27_2 : x_code k_P 27 2 = some (.aload_n 0, 1) := by decide +kernel
theorem kx_27_3 : x_code k_P 27 3 = some (.getfield 17, 3) := by decide +kernel
theorem kp_27_17 : x_pool k_P 27 17 = (1, 3, 2) := by decide +kernel
theorem kx_27_6 : x_code k_P 27 6 = some (.aload_n 0, 1) := by decide +kernel
theorem kx_27_7 : x_code k_P 27 7 = some (.getfield 13, 3) := by decide +kernel
theorem kp_27_13 : x_pool k_P 27 13 = (1, 3, 1) := by decide +kernel
theorem kx_27_10 : x_code k_P 27 10 = some (.if_icmp .ge 49, 3) := by decide +kernel
theorem kx_27_59 : x_code k_P 27 59 = some (.aload_n 0, 1) := by decide +kernel
theorem kx_27_60 : x_code k_P 27 60 = some (.getfield 17, 3) := by decide +kernel
theorem kx_27_63 : x_code k_P 27 63 = some (.aload_n 0, 1) := by decide +kernel
theorem kx_27_64 : x_code k_P 27 64 = some (.getfield 26, 3) := by decide +kernel
theorem kp_27_26 : x_pool k_P 27 26 = (1, 3, 5) := by decide +kernel
theorem kx_27_67 : x_code k_P 27 67 = some (.isub, 1) := by decide +kernel
theorem kx_27_68 : x_code k_P 27 68 = some (.istore_n 3, 1) := by decide +kernel
theorem km_27_3 : 3 < x_maxL k_P 27 := by decide +kernel
theorem kx_27_69 : x_code k_P 27 69 = some (.iload_n 3, 1) := by decide +kernel
theorem kx_27_70 : x_code k_P 27 70 = some (.bipush 9, 2) := by decide +kernel
theorem kx_27_72 : x_code k_P 27 72 = some (.if_icmp .ne 22, 3) := by decide +kernel
theorem kx_27_94 : x_code k_P 27 94 = some (.iload_n 3, 1) := by decide +kernel
theorem kx_27_95 : x_code k_P 27 95 = some (.bipush 6, 2) := by decide +kernel
theorem kx_27_97 : x_code k_P 27 97 = some (.if_icmp .le 22, 3) := by decide +kernel
theorem kx_27_119 : x_code k_P 27 119 = some (.aload_n 0, 1) := by decide +kernel
theorem kx_27_120 : x_code k_P 27 120 = some (.lload_n 1, 1) := by decide +kernel
theorem kx_27_121 : x_code k_P 27 121 = some (.iconst 5, 1) := by decide +kernel
theorem kx_27_122 : x_code k_P 27 122 = some (.bipush 6, 2) := by decide +kernel
theorem kx_27_124 : x_code k_P 27 124 = some (.iload_n 3, 1) := by decide +kernel
theorem kx_27_125 : x_code k_P 27 125 = some (.isub, 1) := by decide +kernel
theorem kx_27_126 : x_code k_P 27 126 = some (.imul, 1) := by decide +kernel
theorem kx_27_127 : x_code k_P 27 127 = some (.lshl, 1) := by decide +kernel
theorem kx_27_128 : x_code k_P 27 128 = some (.l2i, 1) := by decide +kernel
theorem kx_27_129 : x_code k_P 27 129 = some (.putfield 23, 3) := by decide +kernel
theorem kp_27_23 : x_pool k_P 27 23 = (1, 3, 4) := by decide +kernel
theorem kx_27_132 : x_code k_P 27 132 = some (.aload_n 0, 1) := by decide +kernel
theorem kx_27_133 : x_code k_P 27 133 = some (.aload_n 0, 1) := by decide +kernel
theorem kx_27_134 : x_code k_P 27 134 = some (.getfield 23, 3) := by decide +kernel
theorem kx_27_137 : x_code k_P 27 137 = some (.invokestatic 80, 3) := by decide +kernel
theorem kp_27_80 : x_pool k_P 27 80 = (6, 29, 1) := by decide +kernel
theorem kcl_29 : x_maxL k_P 29 ≤ 60 ∧ 1 ≤ x_maxL k_P 29 := by decide +kernel
theorem kx_27_140 : x_code k_P 27 140 = some (.ifCond .eq 7, 3) := by decide +kernel
theorem kx_27_147 : x_code k_P 27 147 = some (.iconst 2, 1) := by decide +kernel
theorem kx_27_148 : x_code k_P 27 148 = some (.putfield 20, 3) := by decide +kernel
theorem kp_27_20 : x_pool k_P 27 20 = (1, 3, 3) := by decide +kernel
theorem kx_27_151 : x_code k_P 27 151 = some (.return_, 1) := by decide +kernel
theorem kq_27 : x_retk k_P 27 = 0 := by decide +kernel
theorem kx_27_143 : x_code k_P 27 143 = some (.iconst 1, 1) := by decide +kernel
theorem kx_27_144 : x_code k_P 27 144 = some (.goto 4, 3) := by decide +kernel
theorem kx_27_100 : x_code k_P 27 100 = some (.aload_n 0, 1) := by decide +kernel
theorem kx_27_101 : x_code k_P 27 101 = some (.iconst 5, 1) := by decide +kernel
theorem kx_27_102 : x_code k_P 27 102 = some (.putfield 20, 3) := by decide +kernel
theorem kx_27_105 : x_code k_P 27 105 = some (.aload_n 0, 1) := by decide +kernel
theorem kx_27_106 : x_code k_P 27 106 = some (.iconst 1, 1) := by decide +kernel
theorem kx_27_107 : x_code k_P 27 107 = some (.aload_n 0, 1) := by decide +kernel
theorem kx_27_108 : x_code k_P 27 108 = some (.getfield 26, 3) := by decide +kernel
theorem kx_27_111 : x_code k_P 27 111 = some (.bipush 6, 2) := by decide +kernel
theorem kx_27_113 : x_code k_P 27 113 = some (.iadd, 1) := by decide +kernel
theorem kx_27_114 : x_code k_P 27 114 = some (.invokevirtual 47, 3) := by decide +kernel
theorem kp_27_47 : x_pool k_P 27 47 = (2, 20, 2) := by decide +kernel
theorem kx_27_117 : x_code k_P 27 117 = some (.pop, 1) := by decide +kernel
theorem kx_27_118 : x_code k_P 27 118 = some (.return_, 1) := by decide +kernel
theorem kx_27_75 : x_code k_P 27 75 = some (.lload_n 1, 1) := by decide +kernel
theorem kx_27_76 : x_code k_P 27 76 = some (.ldc2_w 78, 3) := by decide +kernel
theorem kp_27_78 : x_pool k_P 27 78 = (8, 0, 3352764567730) := by decide +kernel
theorem kx_27_79 : x_code k_P 27 79 = some (.lcmp, 1) := by decide +kernel
theorem kx_27_80 : x_code k_P 27 80 = some (.ifCond .ne 14, 3) := by decide +kernel
theorem kx_27_83 : x_code k_P 27 83 = some (.aload_n 0, 1) := by decide +kernel
theorem kx_27_84 : x_code k_P 27 84 = some (.iconst 1, 1) := by decide +kernel
theorem kx_27_85 : x_code k_P 27 85 = some (.putfield 20, 3) := by decide +kernel
theorem kx_27_88 : x_code k_P 27 88 = some (.aload_n 0, 1) := by decide +kernel
theorem kx_27_89 : x_code k_P 27 89 = some (.iconst 1, 1) := by decide +kernel
theorem kx_27_90 : x_code k_P 27 90 = some (.putfield 23, 3) := by decide +kernel
theorem kx_27_93 : x_code k_P 27 93 = some (.return_, 1) := by decide +kernel
theorem kx_27_13 : x_code k_P 27 13 = some (.aload_n 0, 1) := by decide +kernel
theorem kx_27_14 : x_code k_P 27 14 = some (.getfield 7, 3) := by decide +kernel
theorem kp_27_7 : x_pool k_P 27 7 = (1, 3, 0) := by decide +kernel
theorem kx_27_17 : x_code k_P 27 17 = some (.aload_n 0, 1) := by decide +kernel
theorem kx_27_18 : x_code k_P 27 18 = some (.getfield 17, 3) := by decide +kernel
theorem kx_27_21 : x_code k_P 27 21 = some (.iaload, 1) := by decide +kernel
theorem kx_27_22 : x_code k_P 27 22 = some (.invokestatic 65, 3) := by decide +kernel
theorem kp_27_65 : x_pool k_P 27 65 = (6, 30, 1) := by decide +kernel
theorem kcl_30 : x_maxL k_P 30 ≤ 60 ∧ 1 ≤ x_maxL k_P 30 := by decide +kernel
theorem kx_27_25 : x_code k_P 27 25 = some (.ifCond .eq 34, 3) := by decide +kernel
theorem kx_27_28 : x_code k_P 27 28 = some (.lload_n 1, 1) := by decide +kernel
theorem kx_27_29 : x_code k_P 27 29 = some (.iconst 5, 1) := by decide +kernel
theorem kx_27_30 : x_code k_P 27 30 = some (.lshl, 1) := by decide +kernel
theorem kx_27_31 : x_code k_P 27 31 = some (.aload_n 0, 1) := by decide +kernel
theorem kx_27_32 : x_code k_P 27 32 = some (.getfield 7, 3) := by decide +kernel
theorem kx_27_35 : x_code k_P 27 35 = some (.aload_n 0, 1) := by decide +kernel
theorem kx_27_36 : x_code k_P 27 36 = some (.getfield 17, 3) := by decide +kernel
theorem kx_27_39 : x_code k_P 27 39 = some (.iaload, 1) := by decide +kernel
theorem kx_27_40 : x_code k_P 27 40 = some (.bipush 31, 2) := by decide +kernel
theorem kx_27_42 : x_code k_P 27 42 = some (.iand, 1) := by decide +kernel
theorem kx_27_43 : x_code k_P 27 43 = some (.i2l, 1) := by decide +kernel
theorem kx_27_44 : x_code k_P 27 44 = some (.lor, 1) := by decide +kernel
theorem kx_27_45 : x_code k_P 27 45 = some (.lstore_n 1, 1) := by decide +kernel
theorem kx_27_46 : x_code k_P 27 46 = some (.aload_n 0, 1) := by decide +kernel
theorem kx_27_47 : x_code k_P 27 47 = some (.dup, 1) := by decide +kernel
theorem kx_27_48 : x_code k_P 27 48 = some (.getfield 17, 3) := by decide +kernel
theorem kx_27_51 : x_code k_P 27 51 = some (.iconst 1, 1) := by decide +kernel
theorem kx_27_52 : x_code k_P 27 52 = some (.iadd, 1) := by decide +kernel
theorem kx_27_53 : x_code k_P 27 53 = some (.putfield 17, 3) := by decide +kernel
theorem kx_27_56 : x_code k_P 27 56 = some (.goto (-54), 3) := by decide +kernel
def fS_27_l2 : List (Nat × Nat) := [(5, 2), (5, 3), (5, 4), (5, 6), (5, 7)]
def fS_27_m : List (Nat × Nat) := [(5, 2), (5, 3), (5, 4), (5, 6), (5, 7)]
theorem m_27 {xs : Nat → Int} {Ln d : Nat} {T : List cK} {M : cM} (hT : TT T) (hI : Rng M) (h50 : M 5 0 = ((2 : Nat) : Int)) (p0 : M 5 2 < M 5 1) (p1 : ∀ z : Int, z = M 5 2 → 97 ≤ M 2 z.toNat ∧ M 2 z.toNat ≤ 122) : cC k_P xs Ln (d + 1) 27 [rf 5] (T, M) (qV T M fS_27_m (fun M1 => M 5 2 + 1 ≤ M1 5 2)) := by
  show cP k_P xs Ln (d + 1) 27 0 [(0, rf 5)] [] (T, M) _
  have hFm : Fr fS_27_m M M := Fr.refl
  refine s_lconst (v := 0) kx_27_0 (by decide) ?_
  refine s_lstore_n kx_27_1 km_27_2 rfl ?_
  have key3 : ∀ n4 : Nat, ∀ (x1_1 : Int), ∀ M2 : cM, Rng M2 → Fr fS_27_m M M2 → Fr fS_27_l2 M M2 → ((M2 5 2 = M 5 2 ∨ M 5 2 + 1 ≤ M2 5 2)) → (1600 - M2 5 2).toNat < n4 → cP k_P xs Ln (d + 1) 27 2 [(0, rf 5), (1, (1, x1_1))] [] (T, M2) (qV T M fS_27_m (fun M1 => M 5 2 + 1 ≤ M1 5 2)) := by
    intro n4
    induction n4 with
    | zero => intro x1_1 M2 hI2 hFm2 fl2 i5 hm6; exact absurd hm6 (Nat.not_lt_zero _)
    | succ n4 ih7 =>
      intro x1_1 M2 hI2 hFm2 fl2 i5 hm6
      refine s_aload_n kx_27_2 rfl ?_
      refine r_getI (k := 5) (f := 2) kx_27_3 kp_27_17 (tk_5 hT) kf_3_2 (fun _ => rfl) (rg_5_2 hI2) (fun v8 v8e v8a v8b => ?_)
      refine s_aload_n kx_27_6 rfl ?_
      refine r_getI (k := 5) (f := 1) kx_27_7 kp_27_13 (tk_5 hT) kf_3_1 (fun _ => rfl) (rg_5_1 hI2) (fun v9 v9e v9a v9b => ?_)
      have v9z : M 5 1 = v9 := ((fl2 5 1 rfl)).symm.trans v9e
      refine s_icmp_ge (t := 59) kx_27_10 (by decide) (fun hc10 => ?_) (fun hc10 => ?_)
      · have he11 : M2 2 (v8).toNat = M 2 (v8).toNat := (fl2 2 _ rfl)
        have hge12 : M 5 2 + 1 ≤ v8 := (if e9 : v8 = M 5 2 then absurd (p1 v8 e9) (by omega) else by omega)
        refine s_aload_n kx_27_59 rfl ?_
        refine r_getK (k := 5) (f := 2) kx_27_60 kp_27_17 (tk_5 hT) kf_3_2 (fun _ => rfl) v8e ?_
        refine s_aload_n kx_27_63 rfl ?_
        refine r_getI (k := 5) (f := 5) kx_27_64 kp_27_26 (tk_5 hT) kf_3_5 (fun _ => rfl) (rg_5_5 hI2) (fun v13 v13e v13a v13b => ?_)
        have v13z : M 5 5 = v13 := ((fl2 5 5 rfl)).symm.trans v13e
        refine r_sub kx_27_67 ⟨by omega, by omega⟩ ?_
        refine s_istore_n kx_27_68 km_27_3 rfl ?_
        refine s_iload_n kx_27_69 rfl ?_
        refine s_bipush (v := 9) kx_27_70 (by decide) ?_
        refine s_icmp_ne (t := 94) kx_27_72 (by decide) (fun hc14 => ?_) (fun hc14 => ?_)
        · refine s_iload_n kx_27_94 rfl ?_
          refine s_bipush (v := 6) kx_27_95 (by decide) ?_
          refine s_icmp_le (t := 119) kx_27_97 (by decide) (fun hc15 => ?_) (fun hc15 => ?_)
          · refine s_aload_n kx_27_119 rfl ?_
            refine s_lload_n kx_27_120 rfl ?_
            refine s_iconst (v := 5) kx_27_121 (by decide) ?_
            refine s_bipush (v := 6) kx_27_122 (by decide) ?_
            refine s_iload_n kx_27_124 rfl ?_
            refine r_sub kx_27_125 ⟨by omega, by omega⟩ ?_
            refine r_mul kx_27_126 ⟨by omega, by omega⟩ ?_
            refine r_lshlR kx_27_127 (fun v16 v16a v16b => ?_)
            refine r_l2iR kx_27_128 (fun v17 v17a v17b => ?_)
            refine r_put (k := 5) (f := 4) kx_27_129 kp_27_23 (tk_5 hT) kf_3_4 rfl (by decide) (by decide) hI2 ru_5_4 (fun M18 hI18 u18 => ?_)
            have hFm18 := hFm2.up u18 rfl
            have hFl218 := fl2.up u18 rfl
            refine s_aload_n kx_27_132 rfl ?_
            refine s_aload_n kx_27_133 rfl ?_
            refine r_getK (k := 5) (f := 4) kx_27_134 kp_27_23 (tk_5 hT) kf_3_4 (fun _ => rfl) u18.1 ?_
            refine s_callS2 (s1 := 1) (s2 := 1) (as := [(0, v17)]) (rest := [rf 5]) kx_27_137 kp_27_80 rfl kcl_29 rfl rfl (by decide) (m_29 (d := d) (w := v17) hT hI18) (kF (fun v19 v19p => ?_))
            refine s_if_eq (t := 147) kx_27_140 (by decide) (fun hc20 => ?_) (fun hc20 => ?_)
            · refine s_iconst (v := 2) kx_27_147 (by decide) ?_
              refine r_put (k := 5) (f := 3) kx_27_148 kp_27_20 (tk_5 hT) kf_3_3 rfl (by decide) (by decide) hI18 (ru_5_3 (by omega) (by omega)) (fun M21 hI21 u21 => ?_)
              have hFm21 := hFm18.up u21 rfl
              have hFl221 := hFl218.up u21 rfl
              have hk22 : M21 5 2 = v8 := ((u21.2 5 2 (by omega)).trans ((u18.2 5 2 (by omega)).trans v8e))
              have hk23 : M21 5 3 = 2 := u21.1
              exact s_vret kx_27_151 kq_27 ⟨_, rfl, rfl, hI21, hFm21, (by omega)⟩
            · refine s_iconst (v := 1) kx_27_143 (by decide) ?_
              refine s_goto (t := 148) kx_27_144 (by decide) ?_
              refine r_put (k := 5) (f := 3) kx_27_148 kp_27_20 (tk_5 hT) kf_3_3 rfl (by decide) (by decide) hI18 (ru_5_3 (by omega) (by omega)) (fun M24 hI24 u24 => ?_)
              have hFm24 := hFm18.up u24 rfl
              have hFl224 := hFl218.up u24 rfl
              have hk25 : M24 5 2 = v8 := ((u24.2 5 2 (by omega)).trans ((u18.2 5 2 (by omega)).trans v8e))
              have hk26 : M24 5 3 = 1 := u24.1
              exact s_vret kx_27_151 kq_27 ⟨_, rfl, rfl, hI24, hFm24, (by omega)⟩
          · refine s_aload_n kx_27_100 rfl ?_
            refine s_iconst (v := 5) kx_27_101 (by decide) ?_
            refine r_put (k := 5) (f := 3) kx_27_102 kp_27_20 (tk_5 hT) kf_3_3 rfl (by decide) (by decide) hI2 (ru_5_3 (by omega) (by omega)) (fun M27 hI27 u27 => ?_)
            have hFm27 := hFm2.up u27 rfl
            have hFl227 := fl2.up u27 rfl
            refine s_aload_n kx_27_105 rfl ?_
            refine s_iconst (v := 1) kx_27_106 (by decide) ?_
            refine s_aload_n kx_27_107 rfl ?_
            refine r_getK (k := 5) (f := 5) kx_27_108 kp_27_26 (tk_5 hT) kf_3_5 (fun _ => rfl) ((u27.2 5 5 (by omega)).trans v13e) ?_
            refine s_bipush (v := 6) kx_27_111 (by decide) ?_
            refine r_add kx_27_113 ⟨by omega, by omega⟩ ?_
            refine s_callV2 (k := 5) (s1 := 3) (s2 := 0) (as := [(0, (v13 + 6)), (0, 1)]) (rest := []) kx_27_114 kp_27_47 (Or.inl rfl) rfl (tk_5 hT) ki_20 kcl_20 rfl rfl (by decide) (m_20 (d := d) (kind := 1) (place := (v13 + 6)) hT hI27) (kW (fun v28 M29 hI29 fr29 v28p => ?_))
            have hFm29 := hFm27.call fr29 rfl
            have hFl229 := hFl227.call fr29 rfl
            have tr30 := (fr29 5 2 rfl)
            refine s_pop kx_27_117 rfl ?_
            have hk31 : M29 5 2 = v8 := ((fr29 5 2 rfl).trans ((u27.2 5 2 (by omega)).trans v8e))
            have hk32 : M29 5 3 = 5 := ((fr29 5 3 rfl).trans u27.1)
            exact s_vret kx_27_118 kq_27 ⟨_, rfl, rfl, hI29, hFm29, (by omega)⟩
        · refine s_lload_n kx_27_75 rfl ?_
          refine s_ldc2_w kx_27_76 kp_27_78 ?_
          refine r_lcmpR kx_27_79 (fun v33 => ?_)
          refine s_if_ne (t := 94) kx_27_80 (by decide) (fun hc34 => ?_) (fun hc34 => ?_)
          · refine s_iload_n kx_27_94 rfl ?_
            refine s_bipush (v := 6) kx_27_95 (by decide) ?_
            refine s_icmp_le (t := 119) kx_27_97 (by decide) (fun hc35 => absurd hc35 (by omega)) (fun hc35 => ?_)
            refine s_aload_n kx_27_100 rfl ?_
            refine s_iconst (v := 5) kx_27_101 (by decide) ?_
            refine r_put (k := 5) (f := 3) kx_27_102 kp_27_20 (tk_5 hT) kf_3_3 rfl (by decide) (by decide) hI2 (ru_5_3 (by omega) (by omega)) (fun M36 hI36 u36 => ?_)
            have hFm36 := hFm2.up u36 rfl
            have hFl236 := fl2.up u36 rfl
            refine s_aload_n kx_27_105 rfl ?_
            refine s_iconst (v := 1) kx_27_106 (by decide) ?_
            refine s_aload_n kx_27_107 rfl ?_
            refine r_getK (k := 5) (f := 5) kx_27_108 kp_27_26 (tk_5 hT) kf_3_5 (fun _ => rfl) ((u36.2 5 5 (by omega)).trans v13e) ?_
            refine s_bipush (v := 6) kx_27_111 (by decide) ?_
            refine r_add kx_27_113 ⟨by omega, by omega⟩ ?_
            refine s_callV2 (k := 5) (s1 := 3) (s2 := 0) (as := [(0, (v13 + 6)), (0, 1)]) (rest := []) kx_27_114 kp_27_47 (Or.inl rfl) rfl (tk_5 hT) ki_20 kcl_20 rfl rfl (by decide) (m_20 (d := d) (kind := 1) (place := (v13 + 6)) hT hI36) (kW (fun v37 M38 hI38 fr38 v37p => ?_))
            have hFm38 := hFm36.call fr38 rfl
            have hFl238 := hFl236.call fr38 rfl
            have tr39 := (fr38 5 2 rfl)
            refine s_pop kx_27_117 rfl ?_
            have hk40 : M38 5 2 = v8 := ((fr38 5 2 rfl).trans ((u36.2 5 2 (by omega)).trans v8e))
            have hk41 : M38 5 3 = 5 := ((fr38 5 3 rfl).trans u36.1)
            exact s_vret kx_27_118 kq_27 ⟨_, rfl, rfl, hI38, hFm38, (by omega)⟩
          · refine s_aload_n kx_27_83 rfl ?_
            refine s_iconst (v := 1) kx_27_84 (by decide) ?_
            refine r_put (k := 5) (f := 3) kx_27_85 kp_27_20 (tk_5 hT) kf_3_3 rfl (by decide) (by decide) hI2 (ru_5_3 (by omega) (by omega)) (fun M42 hI42 u42 => ?_)
            have hFm42 := hFm2.up u42 rfl
            have hFl242 := fl2.up u42 rfl
            refine s_aload_n kx_27_88 rfl ?_
            refine s_iconst (v := 1) kx_27_89 (by decide) ?_
            refine r_put (k := 5) (f := 4) kx_27_90 kp_27_23 (tk_5 hT) kf_3_4 rfl (by decide) (by decide) hI42 ru_5_4 (fun M43 hI43 u43 => ?_)
            have hFm43 := hFm42.up u43 rfl
            have hFl243 := hFl242.up u43 rfl
            have hk44 : M43 5 2 = v8 := ((u43.2 5 2 (by omega)).trans ((u42.2 5 2 (by omega)).trans v8e))
            have hk45 : M43 5 3 = 1 := ((u43.2 5 3 (by omega)).trans u42.1)
            exact s_vret kx_27_93 kq_27 ⟨_, rfl, rfl, hI43, hFm43, (by omega)⟩
      · refine s_aload_n kx_27_13 rfl ?_
        refine r_getR (k := 5) (f := 0) (k2 := 2) kx_27_14 kp_27_7 (tk_5 hT) kf_3_0 (by decide) ((fl2 5 0 rfl).trans h50) ?_
        refine s_aload_n kx_27_17 rfl ?_
        refine r_getK (k := 5) (f := 2) kx_27_18 kp_27_17 (tk_5 hT) kf_3_2 (fun _ => rfl) v8e ?_
        refine r_ald (k := 2) kx_27_21 (tk_2 hT) ⟨by omega, by omega⟩ (rg_2 hI2) (fun v46 v46e v46a v46b => ?_)
        refine s_callS2 (s1 := 1) (s2 := 0) (as := [(0, v46)]) (rest := []) kx_27_22 kp_27_65 rfl kcl_30 rfl rfl (by decide) (m_30 (d := d) (c := v46) hT hI2) (kF (fun v47 v47p => ?_))
        refine s_if_eq (t := 59) kx_27_25 (by decide) (fun hc48 => ?_) (fun hc48 => ?_)
        · replace v47p := v47p.resolve_left (by omega)
          have he49 : M2 2 (v8).toNat = M 2 (v8).toNat := (fl2 2 _ rfl)
          have hge50 : M 5 2 + 1 ≤ v8 := (if e9 : v8 = M 5 2 then absurd (p1 v8 e9) (by omega) else by omega)
          refine s_aload_n kx_27_59 rfl ?_
          refine r_getK (k := 5) (f := 2) kx_27_60 kp_27_17 (tk_5 hT) kf_3_2 (fun _ => rfl) v8e ?_
          refine s_aload_n kx_27_63 rfl ?_
          refine r_getI (k := 5) (f := 5) kx_27_64 kp_27_26 (tk_5 hT) kf_3_5 (fun _ => rfl) (rg_5_5 hI2) (fun v51 v51e v51a v51b => ?_)
          have v51z : M 5 5 = v51 := ((fl2 5 5 rfl)).symm.trans v51e
          refine r_sub kx_27_67 ⟨by omega, by omega⟩ ?_
          refine s_istore_n kx_27_68 km_27_3 rfl ?_
          refine s_iload_n kx_27_69 rfl ?_
          refine s_bipush (v := 9) kx_27_70 (by decide) ?_
          refine s_icmp_ne (t := 94) kx_27_72 (by decide) (fun hc52 => ?_) (fun hc52 => ?_)
          · refine s_iload_n kx_27_94 rfl ?_
            refine s_bipush (v := 6) kx_27_95 (by decide) ?_
            refine s_icmp_le (t := 119) kx_27_97 (by decide) (fun hc53 => ?_) (fun hc53 => ?_)
            · refine s_aload_n kx_27_119 rfl ?_
              refine s_lload_n kx_27_120 rfl ?_
              refine s_iconst (v := 5) kx_27_121 (by decide) ?_
              refine s_bipush (v := 6) kx_27_122 (by decide) ?_
              refine s_iload_n kx_27_124 rfl ?_
              refine r_sub kx_27_125 ⟨by omega, by omega⟩ ?_
              refine r_mul kx_27_126 ⟨by omega, by omega⟩ ?_
              refine r_lshlR kx_27_127 (fun v54 v54a v54b => ?_)
              refine r_l2iR kx_27_128 (fun v55 v55a v55b => ?_)
              refine r_put (k := 5) (f := 4) kx_27_129 kp_27_23 (tk_5 hT) kf_3_4 rfl (by decide) (by decide) hI2 ru_5_4 (fun M56 hI56 u56 => ?_)
              have hFm56 := hFm2.up u56 rfl
              have hFl256 := fl2.up u56 rfl
              refine s_aload_n kx_27_132 rfl ?_
              refine s_aload_n kx_27_133 rfl ?_
              refine r_getK (k := 5) (f := 4) kx_27_134 kp_27_23 (tk_5 hT) kf_3_4 (fun _ => rfl) u56.1 ?_
              refine s_callS2 (s1 := 1) (s2 := 1) (as := [(0, v55)]) (rest := [rf 5]) kx_27_137 kp_27_80 rfl kcl_29 rfl rfl (by decide) (m_29 (d := d) (w := v55) hT hI56) (kF (fun v57 v57p => ?_))
              refine s_if_eq (t := 147) kx_27_140 (by decide) (fun hc58 => ?_) (fun hc58 => ?_)
              · refine s_iconst (v := 2) kx_27_147 (by decide) ?_
                refine r_put (k := 5) (f := 3) kx_27_148 kp_27_20 (tk_5 hT) kf_3_3 rfl (by decide) (by decide) hI56 (ru_5_3 (by omega) (by omega)) (fun M59 hI59 u59 => ?_)
                have hFm59 := hFm56.up u59 rfl
                have hFl259 := hFl256.up u59 rfl
                have hk60 : M59 5 2 = v8 := ((u59.2 5 2 (by omega)).trans ((u56.2 5 2 (by omega)).trans v8e))
                have hk61 : M59 5 3 = 2 := u59.1
                exact s_vret kx_27_151 kq_27 ⟨_, rfl, rfl, hI59, hFm59, (by omega)⟩
              · refine s_iconst (v := 1) kx_27_143 (by decide) ?_
                refine s_goto (t := 148) kx_27_144 (by decide) ?_
                refine r_put (k := 5) (f := 3) kx_27_148 kp_27_20 (tk_5 hT) kf_3_3 rfl (by decide) (by decide) hI56 (ru_5_3 (by omega) (by omega)) (fun M62 hI62 u62 => ?_)
                have hFm62 := hFm56.up u62 rfl
                have hFl262 := hFl256.up u62 rfl
                have hk63 : M62 5 2 = v8 := ((u62.2 5 2 (by omega)).trans ((u56.2 5 2 (by omega)).trans v8e))
                have hk64 : M62 5 3 = 1 := u62.1
                exact s_vret kx_27_151 kq_27 ⟨_, rfl, rfl, hI62, hFm62, (by omega)⟩
            · refine s_aload_n kx_27_100 rfl ?_
              refine s_iconst (v := 5) kx_27_101 (by decide) ?_
              refine r_put (k := 5) (f := 3) kx_27_102 kp_27_20 (tk_5 hT) kf_3_3 rfl (by decide) (by decide) hI2 (ru_5_3 (by omega) (by omega)) (fun M65 hI65 u65 => ?_)
              have hFm65 := hFm2.up u65 rfl
              have hFl265 := fl2.up u65 rfl
              refine s_aload_n kx_27_105 rfl ?_
              refine s_iconst (v := 1) kx_27_106 (by decide) ?_
              refine s_aload_n kx_27_107 rfl ?_
              refine r_getK (k := 5) (f := 5) kx_27_108 kp_27_26 (tk_5 hT) kf_3_5 (fun _ => rfl) ((u65.2 5 5 (by omega)).trans v51e) ?_
              refine s_bipush (v := 6) kx_27_111 (by decide) ?_
              refine r_add kx_27_113 ⟨by omega, by omega⟩ ?_
              refine s_callV2 (k := 5) (s1 := 3) (s2 := 0) (as := [(0, (v51 + 6)), (0, 1)]) (rest := []) kx_27_114 kp_27_47 (Or.inl rfl) rfl (tk_5 hT) ki_20 kcl_20 rfl rfl (by decide) (m_20 (d := d) (kind := 1) (place := (v51 + 6)) hT hI65) (kW (fun v66 M67 hI67 fr67 v66p => ?_))
              have hFm67 := hFm65.call fr67 rfl
              have hFl267 := hFl265.call fr67 rfl
              have tr68 := (fr67 5 2 rfl)
              refine s_pop kx_27_117 rfl ?_
              have hk69 : M67 5 2 = v8 := ((fr67 5 2 rfl).trans ((u65.2 5 2 (by omega)).trans v8e))
              have hk70 : M67 5 3 = 5 := ((fr67 5 3 rfl).trans u65.1)
              exact s_vret kx_27_118 kq_27 ⟨_, rfl, rfl, hI67, hFm67, (by omega)⟩
          · refine s_lload_n kx_27_75 rfl ?_
            refine s_ldc2_w kx_27_76 kp_27_78 ?_
            refine r_lcmpR kx_27_79 (fun v71 => ?_)
            refine s_if_ne (t := 94) kx_27_80 (by decide) (fun hc72 => ?_) (fun hc72 => ?_)
            · refine s_iload_n kx_27_94 rfl ?_
              refine s_bipush (v := 6) kx_27_95 (by decide) ?_
              refine s_icmp_le (t := 119) kx_27_97 (by decide) (fun hc73 => absurd hc73 (by omega)) (fun hc73 => ?_)
              refine s_aload_n kx_27_100 rfl ?_
              refine s_iconst (v := 5) kx_27_101 (by decide) ?_
              refine r_put (k := 5) (f := 3) kx_27_102 kp_27_20 (tk_5 hT) kf_3_3 rfl (by decide) (by decide) hI2 (ru_5_3 (by omega) (by omega)) (fun M74 hI74 u74 => ?_)
              have hFm74 := hFm2.up u74 rfl
              have hFl274 := fl2.up u74 rfl
              refine s_aload_n kx_27_105 rfl ?_
              refine s_iconst (v := 1) kx_27_106 (by decide) ?_
              refine s_aload_n kx_27_107 rfl ?_
              refine r_getK (k := 5) (f := 5) kx_27_108 kp_27_26 (tk_5 hT) kf_3_5 (fun _ => rfl) ((u74.2 5 5 (by omega)).trans v51e) ?_
              refine s_bipush (v := 6) kx_27_111 (by decide) ?_
              refine r_add kx_27_113 ⟨by omega, by omega⟩ ?_
              refine s_callV2 (k := 5) (s1 := 3) (s2 := 0) (as := [(0, (v51 + 6)), (0, 1)]) (rest := []) kx_27_114 kp_27_47 (Or.inl rfl) rfl (tk_5 hT) ki_20 kcl_20 rfl rfl (by decide) (m_20 (d := d) (kind := 1) (place := (v51 + 6)) hT hI74) (kW (fun v75 M76 hI76 fr76 v75p => ?_))
              have hFm76 := hFm74.call fr76 rfl
              have hFl276 := hFl274.call fr76 rfl
              have tr77 := (fr76 5 2 rfl)
              refine s_pop kx_27_117 rfl ?_
              have hk78 : M76 5 2 = v8 := ((fr76 5 2 rfl).trans ((u74.2 5 2 (by omega)).trans v8e))
              have hk79 : M76 5 3 = 5 := ((fr76 5 3 rfl).trans u74.1)
              exact s_vret kx_27_118 kq_27 ⟨_, rfl, rfl, hI76, hFm76, (by omega)⟩
            · refine s_aload_n kx_27_83 rfl ?_
              refine s_iconst (v := 1) kx_27_84 (by decide) ?_
              refine r_put (k := 5) (f := 3) kx_27_85 kp_27_20 (tk_5 hT) kf_3_3 rfl (by decide) (by decide) hI2 (ru_5_3 (by omega) (by omega)) (fun M80 hI80 u80 => ?_)
              have hFm80 := hFm2.up u80 rfl
              have hFl280 := fl2.up u80 rfl
              refine s_aload_n kx_27_88 rfl ?_
              refine s_iconst (v := 1) kx_27_89 (by decide) ?_
              refine r_put (k := 5) (f := 4) kx_27_90 kp_27_23 (tk_5 hT) kf_3_4 rfl (by decide) (by decide) hI80 ru_5_4 (fun M81 hI81 u81 => ?_)
              have hFm81 := hFm80.up u81 rfl
              have hFl281 := hFl280.up u81 rfl
              have hk82 : M81 5 2 = v8 := ((u81.2 5 2 (by omega)).trans ((u80.2 5 2 (by omega)).trans v8e))
              have hk83 : M81 5 3 = 1 := ((u81.2 5 3 (by omega)).trans u80.1)
              exact s_vret kx_27_93 kq_27 ⟨_, rfl, rfl, hI81, hFm81, (by omega)⟩
        · replace v47p := v47p.resolve_right (by omega)
          refine s_lload_n kx_27_28 rfl ?_
          refine s_iconst (v := 5) kx_27_29 (by decide) ?_
          refine r_lshlR kx_27_30 (fun v84 v84a v84b => ?_)
          refine s_aload_n kx_27_31 rfl ?_
          refine r_getR (k := 5) (f := 0) (k2 := 2) kx_27_32 kp_27_7 (tk_5 hT) kf_3_0 (by decide) ((fl2 5 0 rfl).trans h50) ?_
          refine s_aload_n kx_27_35 rfl ?_
          refine r_getK (k := 5) (f := 2) kx_27_36 kp_27_17 (tk_5 hT) kf_3_2 (fun _ => rfl) v8e ?_
          refine r_aldK (k := 2) kx_27_39 (tk_2 hT) ⟨by omega, by omega⟩ v46e ?_
          refine s_bipush (v := 31) kx_27_40 (by decide) ?_
          refine r_iandM kx_27_42 (by decide) (by decide) (fun v85 v85a v85b => ?_)
          refine s_i2l kx_27_43 ?_
          refine r_lorR kx_27_44 (fun v86 v86a v86b => ?_)
          refine s_lstore_n kx_27_45 km_27_2 rfl ?_
          refine s_aload_n kx_27_46 rfl ?_
          refine s_dup kx_27_47 rfl ?_
          refine r_getK (k := 5) (f := 2) kx_27_48 kp_27_17 (tk_5 hT) kf_3_2 (fun _ => rfl) v8e ?_
          refine s_iconst (v := 1) kx_27_51 (by decide) ?_
          refine r_add kx_27_52 ⟨by omega, by omega⟩ ?_
          refine r_put (k := 5) (f := 2) kx_27_53 kp_27_17 (tk_5 hT) kf_3_2 rfl (by decide) (by decide) hI2 (ru_5_2 (by omega) (by omega)) (fun M87 hI87 u87 => ?_)
          have hFm87 := hFm2.up u87 rfl
          have hFl287 := fl2.up u87 rfl
          refine s_goto (t := 2) kx_27_56 (by decide) ?_
          have hk88 : M87 5 2 = (v8 + 1) := u87.1
          exact cP.wk (lS1 rfl (lS1 rfl lS0)) (ih7 v86 M87 hI87 hFm87 hFl287 (by omega) (by omega))
  exact cP.wk (lS1 rfl (lS1 rfl lS0)) (key3 _ 0 M hI hFm Fr.refl (by omega) (Nat.lt_succ_self _))
theorem kx_28_0 : x_code k_P 28 0 = some (.aload_n 0, 1) := by decide +kernel
theorem kx_28_1 : x_code k_P 28 1 = some (.iconst 0, 1) := by decide +kernel
theorem kx_28_2 : x_code k_P 28 2 = some (.putfield 23, 3) := by decide +kernel
theorem kp_28_23 : x_pool k_P 28 23 = (1, 3, 4) := by decide +kernel
theorem kx_28_5 : x_code k_P 28 5 = some (.aload_n 0, 1) := by decide +kernel
theorem kx_28_6 : x_code k_P 28 6 = some (.iconst 3, 1) := by decide +kernel
theorem kx_28_7 : x_code k_P 28 7 = some (.putfield 20, 3) := by decide +kernel
theorem kp_28_20 : x_pool k_P 28 20 = (1, 3, 3) := by decide +kernel
theorem kx_28_10 : x_code k_P 28 10 = some (.aload_n 0, 1) := by decide +kernel
theorem kx_28_11 : x_code k_P 28 11 = some (.getfield 17, 3) := by decide +kernel
theorem kp_28_17 : x_pool k_P 28 17 = (1, 3, 2) := by decide +kernel
theorem kx_28_14 : x_code k_P 28 14 = some (.aload_n 0, 1) := by decide +kernel
theorem kx_28_15 : x_code k_P 28 15 = some (.getfield 13, 3) := by decide +kernel
theorem kp_28_13 : x_pool k_P 28 13 = (1, 3, 1) := by decide +kernel
theorem kx_28_18 : x_code k_P 28 18 = some (.if_icmp .ge 84, 3) := by decide +kernel
theorem kx_28_102 : x_code k_P 28 102 = some (.return_, 1) := by decide +kernel
theorem kq_28 : x_retk k_P 28 = 0 := by decide +kernel
theorem kx_28_21 : x_code k_P 28 21 = some (.aload_n 0, 1) := by decide +kernel
theorem kx_28_22 : x_code k_P 28 22 = some (.getfield 7, 3) := by decide +kernel
theorem kp_28_7 : x_pool k_P 28 7 = (1, 3, 0) := by decide +kernel
theorem kx_28_25 : x_code k_P 28 25 = some (.aload_n 0, 1) := by decide +kernel
theorem kx_28_26 : x_code k_P 28 26 = some (.getfield 17, 3) := by decide +kernel
theorem kx_28_29 : x_code k_P 28 29 = some (.iaload, 1) := by decide +kernel
theorem kx_28_30 : x_code k_P 28 30 = some (.invokestatic 69, 3) := by decide +kernel
theorem kp_28_69 : x_pool k_P 28 69 = (6, 31, 1) := by decide +kernel
theorem kcl_31 : x_maxL k_P 31 ≤ 60 ∧ 1 ≤ x_maxL k_P 31 := by decide +kernel
theorem kx_28_33 : x_code k_P 28 33 = some (.ifCond .eq 69, 3) := by decide +kernel
theorem kx_28_36 : x_code k_P 28 36 = some (.aload_n 0, 1) := by decide +kernel
theorem kx_28_37 : x_code k_P 28 37 = some (.getfield 17, 3) := by decide +kernel
theorem kx_28_40 : x_code k_P 28 40 = some (.aload_n 0, 1) := by decide +kernel
theorem kx_28_41 : x_code k_P 28 41 = some (.getfield 26, 3) := by decide +kernel
theorem kp_28_26 : x_pool k_P 28 26 = (1, 3, 5) := by decide +kernel
theorem kx_28_44 : x_code k_P 28 44 = some (.isub, 1) := by decide +kernel
theorem kx_28_45 : x_code k_P 28 45 = some (.iconst 4, 1) := by decide +kernel
theorem kx_28_46 : x_code k_P 28 46 = some (.if_icmp .ne 19, 3) := by decide +kernel
theorem kx_28_65 : x_code k_P 28 65 = some (.aload_n 0, 1) := by decide +kernel
theorem kx_28_66 : x_code k_P 28 66 = some (.aload_n 0, 1) := by decide +kernel
theorem kx_28_67 : x_code k_P 28 67 = some (.getfield 23, 3) := by decide +kernel
theorem kx_28_70 : x_code k_P 28 70 = some (.bipush 10, 2) := by decide +kernel
theorem kx_28_72 : x_code k_P 28 72 = some (.imul, 1) := by decide +kernel
theorem kx_28_73 : x_code k_P 28 73 = some (.aload_n 0, 1) := by decide +kernel
theorem kx_28_74 : x_code k_P 28 74 = some (.getfield 7, 3) := by decide +kernel
theorem kx_28_77 : x_code k_P 28 77 = some (.aload_n 0, 1) := by decide +kernel
theorem kx_28_78 : x_code k_P 28 78 = some (.getfield 17, 3) := by decide +kernel
theorem kx_28_81 : x_code k_P 28 81 = some (.iaload, 1) := by decide +kernel
theorem kx_28_82 : x_code k_P 28 82 = some (.iadd, 1) := by decide +kernel
theorem kx_28_83 : x_code k_P 28 83 = some (.bipush 48, 2) := by decide +kernel
theorem kx_28_85 : x_code k_P 28 85 = some (.isub, 1) := by decide +kernel
theorem kx_28_86 : x_code k_P 28 86 = some (.putfield 23, 3) := by decide +kernel
theorem kx_28_89 : x_code k_P 28 89 = some (.aload_n 0, 1) := by decide +kernel
theorem kx_28_90 : x_code k_P 28 90 = some (.dup, 1) := by decide +kernel
theorem kx_28_91 : x_code k_P 28 91 = some (.getfield 17, 3) := by decide +kernel
theorem kx_28_94 : x_code k_P 28 94 = some (.iconst 1, 1) := by decide +kernel
theorem kx_28_95 : x_code k_P 28 95 = some (.iadd, 1) := by decide +kernel
theorem kx_28_96 : x_code k_P 28 96 = some (.putfield 17, 3) := by decide +kernel
theorem kx_28_99 : x_code k_P 28 99 = some (.goto (-89), 3) := by decide +kernel
theorem kx_28_49 : x_code k_P 28 49 = some (.aload_n 0, 1) := by decide +kernel
theorem kx_28_50 : x_code k_P 28 50 = some (.iconst 5, 1) := by decide +kernel
theorem kx_28_51 : x_code k_P 28 51 = some (.putfield 20, 3) := by decide +kernel
theorem kx_28_54 : x_code k_P 28 54 = some (.aload_n 0, 1) := by decide +kernel
theorem kx_28_55 : x_code k_P 28 55 = some (.iconst 1, 1) := by decide +kernel
theorem kx_28_56 : x_code k_P 28 56 = some (.aload_n 0, 1) := by decide +kernel
theorem kx_28_57 : x_code k_P 28 57 = some (.getfield 17, 3) := by decide +kernel
theorem kx_28_60 : x_code k_P 28 60 = some (.invokevirtual 47, 3) := by decide +kernel
theorem kp_28_47 : x_pool k_P 28 47 = (2, 20, 2) := by decide +kernel
theorem kx_28_63 : x_code k_P 28 63 = some (.pop, 1) := by decide +kernel
theorem kx_28_64 : x_code k_P 28 64 = some (.return_, 1) := by decide +kernel
def fS_28_l10 : List (Nat × Nat) := [(5, 2), (5, 3), (5, 4), (5, 6), (5, 7)]
def fS_28_m : List (Nat × Nat) := [(5, 2), (5, 3), (5, 4), (5, 6), (5, 7)]
theorem m_28 {xs : Nat → Int} {Ln d : Nat} {T : List cK} {M : cM} (hT : TT T) (hI : Rng M) (h50 : M 5 0 = ((2 : Nat) : Int)) (p0 : M 5 2 < M 5 1) (p1 : ∀ z : Int, z = M 5 2 → 48 ≤ M 2 z.toNat ∧ M 2 z.toNat ≤ 57) : cC k_P xs Ln (d + 1) 28 [rf 5] (T, M) (qV T M fS_28_m (fun M1 => M 5 2 ≤ M1 5 2 ∧ (M 5 2 + 1 ≤ M1 5 2 ∨ M1 5 3 = 5))) := by
  show cP k_P xs Ln (d + 1) 28 0 [(0, rf 5)] [] (T, M) _
  have hFm : Fr fS_28_m M M := Fr.refl
  refine s_aload_n kx_28_0 rfl ?_
  refine s_iconst (v := 0) kx_28_1 (by decide) ?_
  refine r_put (k := 5) (f := 4) kx_28_2 kp_28_23 (tk_5 hT) kf_3_4 rfl (by decide) (by decide) hI ru_5_4 (fun M1 hI1 u1 => ?_)
  have hFm1 := hFm.up u1 rfl
  refine s_aload_n kx_28_5 rfl ?_
  refine s_iconst (v := 3) kx_28_6 (by decide) ?_
  refine r_put (k := 5) (f := 3) kx_28_7 kp_28_20 (tk_5 hT) kf_3_3 rfl (by decide) (by decide) hI1 (ru_5_3 (by omega) (by omega)) (fun M2 hI2 u2 => ?_)
  have hFm2 := hFm1.up u2 rfl
  have key4 : ∀ n5 : Nat, ∀ M3 : cM, Rng M3 → Fr fS_28_m M M3 → Fr fS_28_l10 M2 M3 → ((M3 5 2 = M 5 2 ∨ M 5 2 + 1 ≤ M3 5 2)) → (1600 - M3 5 2).toNat < n5 → cP k_P xs Ln (d + 1) 28 10 [(0, rf 5)] [] (T, M3) (qV T M fS_28_m (fun M1 => M 5 2 ≤ M1 5 2 ∧ (M 5 2 + 1 ≤ M1 5 2 ∨ M1 5 3 = 5))) := by
    intro n5
    induction n5 with
    | zero => intro M3 hI3 hFm3 fl3 i6 hm7; exact absurd hm7 (Nat.not_lt_zero _)
    | succ n5 ih8 =>
      intro M3 hI3 hFm3 fl3 i6 hm7
      refine s_aload_n kx_28_10 rfl ?_
      refine r_getI (k := 5) (f := 2) kx_28_11 kp_28_17 (tk_5 hT) kf_3_2 (fun _ => rfl) (rg_5_2 hI3) (fun v9 v9e v9a v9b => ?_)
      refine s_aload_n kx_28_14 rfl ?_
      refine r_getI (k := 5) (f := 1) kx_28_15 kp_28_13 (tk_5 hT) kf_3_1 (fun _ => rfl) (rg_5_1 hI3) (fun v10 v10e v10a v10b => ?_)
      have v10z : M 5 1 = v10 := (((fl3 5 1 rfl).trans ((u2.2 5 1 (by omega)).trans (u1.2 5 1 (by omega))))).symm.trans v10e
      refine s_icmp_ge (t := 102) kx_28_18 (by decide) (fun hc11 => ?_) (fun hc11 => ?_)
      · have he12 : M3 2 (v9).toNat = M 2 (v9).toNat := ((fl3 2 _ rfl).trans ((u2.2 2 _ (by omega)).trans (u1.2 2 _ (by omega))))
        have hge13 : M 5 2 + 1 ≤ v9 := (if e9 : v9 = M 5 2 then absurd (p1 v9 e9) (by omega) else by omega)
        have hk14 : M3 5 2 = v9 := v9e
        exact s_vret kx_28_102 kq_28 ⟨_, rfl, rfl, hI3, hFm3, (by omega)⟩
      · refine s_aload_n kx_28_21 rfl ?_
        refine r_getR (k := 5) (f := 0) (k2 := 2) kx_28_22 kp_28_7 (tk_5 hT) kf_3_0 (by decide) ((fl3 5 0 rfl).trans ((u2.2 5 0 (by omega)).trans ((u1.2 5 0 (by omega)).trans h50))) ?_
        refine s_aload_n kx_28_25 rfl ?_
        refine r_getK (k := 5) (f := 2) kx_28_26 kp_28_17 (tk_5 hT) kf_3_2 (fun _ => rfl) v9e ?_
        refine r_ald (k := 2) kx_28_29 (tk_2 hT) ⟨by omega, by omega⟩ (rg_2 hI3) (fun v15 v15e v15a v15b => ?_)
        refine s_callS2 (s1 := 1) (s2 := 0) (as := [(0, v15)]) (rest := []) kx_28_30 kp_28_69 rfl kcl_31 rfl rfl (by decide) (m_31 (d := d) (c := v15) hT hI3) (kF (fun v16 v16p => ?_))
        refine s_if_eq (t := 102) kx_28_33 (by decide) (fun hc17 => ?_) (fun hc17 => ?_)
        · replace v16p := v16p.resolve_left (by omega)
          have he18 : M3 2 (v9).toNat = M 2 (v9).toNat := ((fl3 2 _ rfl).trans ((u2.2 2 _ (by omega)).trans (u1.2 2 _ (by omega))))
          have hge19 : M 5 2 + 1 ≤ v9 := (if e9 : v9 = M 5 2 then absurd (p1 v9 e9) (by omega) else by omega)
          have hk20 : M3 5 2 = v9 := v9e
          exact s_vret kx_28_102 kq_28 ⟨_, rfl, rfl, hI3, hFm3, (by omega)⟩
        · replace v16p := v16p.resolve_right (by omega)
          refine s_aload_n kx_28_36 rfl ?_
          refine r_getK (k := 5) (f := 2) kx_28_37 kp_28_17 (tk_5 hT) kf_3_2 (fun _ => rfl) v9e ?_
          refine s_aload_n kx_28_40 rfl ?_
          refine r_getI (k := 5) (f := 5) kx_28_41 kp_28_26 (tk_5 hT) kf_3_5 (fun _ => rfl) (rg_5_5 hI3) (fun v21 v21e v21a v21b => ?_)
          have v21z : M 5 5 = v21 := (((fl3 5 5 rfl).trans ((u2.2 5 5 (by omega)).trans (u1.2 5 5 (by omega))))).symm.trans v21e
          refine r_sub kx_28_44 ⟨by omega, by omega⟩ ?_
          refine s_iconst (v := 4) kx_28_45 (by decide) ?_
          refine s_icmp_ne (t := 65) kx_28_46 (by decide) (fun hc22 => ?_) (fun hc22 => ?_)
          · refine s_aload_n kx_28_65 rfl ?_
            refine s_aload_n kx_28_66 rfl ?_
            refine r_getU (k := 5) (f := 4) kx_28_67 kp_28_23 (tk_5 hT) kf_3_4 (fun _ => rfl) (fun v23 v23e => ?_)
            refine s_bipush (v := 10) kx_28_70 (by decide) ?_
            refine r_imulR kx_28_72 (fun v24 v24a v24b => ?_)
            refine s_aload_n kx_28_73 rfl ?_
            refine r_getR (k := 5) (f := 0) (k2 := 2) kx_28_74 kp_28_7 (tk_5 hT) kf_3_0 (by decide) ((fl3 5 0 rfl).trans ((u2.2 5 0 (by omega)).trans ((u1.2 5 0 (by omega)).trans h50))) ?_
            refine s_aload_n kx_28_77 rfl ?_
            refine r_getK (k := 5) (f := 2) kx_28_78 kp_28_17 (tk_5 hT) kf_3_2 (fun _ => rfl) v9e ?_
            refine r_aldK (k := 2) kx_28_81 (tk_2 hT) ⟨by omega, by omega⟩ v15e ?_
            refine r_iaddR kx_28_82 (fun v25 v25a v25b => ?_)
            refine s_bipush (v := 48) kx_28_83 (by decide) ?_
            refine r_isubR kx_28_85 (fun v26 v26a v26b => ?_)
            refine r_put (k := 5) (f := 4) kx_28_86 kp_28_23 (tk_5 hT) kf_3_4 rfl (by decide) (by decide) hI3 ru_5_4 (fun M27 hI27 u27 => ?_)
            have hFm27 := hFm3.up u27 rfl
            have hFl1027 := fl3.up u27 rfl
            refine s_aload_n kx_28_89 rfl ?_
            refine s_dup kx_28_90 rfl ?_
            refine r_getK (k := 5) (f := 2) kx_28_91 kp_28_17 (tk_5 hT) kf_3_2 (fun _ => rfl) ((u27.2 5 2 (by omega)).trans v9e) ?_
            refine s_iconst (v := 1) kx_28_94 (by decide) ?_
            refine r_add kx_28_95 ⟨by omega, by omega⟩ ?_
            refine r_put (k := 5) (f := 2) kx_28_96 kp_28_17 (tk_5 hT) kf_3_2 rfl (by decide) (by decide) hI27 (ru_5_2 (by omega) (by omega)) (fun M28 hI28 u28 => ?_)
            have hFm28 := hFm27.up u28 rfl
            have hFl1028 := hFl1027.up u28 rfl
            refine s_goto (t := 10) kx_28_99 (by decide) ?_
            have hk29 : M28 5 2 = (v9 + 1) := u28.1
            exact cP.wk (lS1 rfl lS0) (ih8 M28 hI28 hFm28 hFl1028 (by omega) (by omega))
          · refine s_aload_n kx_28_49 rfl ?_
            refine s_iconst (v := 5) kx_28_50 (by decide) ?_
            refine r_put (k := 5) (f := 3) kx_28_51 kp_28_20 (tk_5 hT) kf_3_3 rfl (by decide) (by decide) hI3 (ru_5_3 (by omega) (by omega)) (fun M30 hI30 u30 => ?_)
            have hFm30 := hFm3.up u30 rfl
            have hFl1030 := fl3.up u30 rfl
            refine s_aload_n kx_28_54 rfl ?_
            refine s_iconst (v := 1) kx_28_55 (by decide) ?_
            refine s_aload_n kx_28_56 rfl ?_
            refine r_getK (k := 5) (f := 2) kx_28_57 kp_28_17 (tk_5 hT) kf_3_2 (fun _ => rfl) ((u30.2 5 2 (by omega)).trans v9e) ?_
            refine s_callV2 (k := 5) (s1 := 3) (s2 := 0) (as := [(0, v9), (0, 1)]) (rest := []) kx_28_60 kp_28_47 (Or.inl rfl) rfl (tk_5 hT) ki_20 kcl_20 rfl rfl (by decide) (m_20 (d := d) (kind := 1) (place := v9) hT hI30) (kW (fun v31 M32 hI32 fr32 v31p => ?_))
            have hFm32 := hFm30.call fr32 rfl
            have hFl1032 := hFl1030.call fr32 rfl
            have tr33 := (fr32 5 2 rfl)
            have tr34 := (fr32 5 3 rfl)
            refine s_pop kx_28_63 rfl ?_
            have hk35 : M32 5 2 = v9 := ((fr32 5 2 rfl).trans ((u30.2 5 2 (by omega)).trans v9e))
            have hk36 : M32 5 3 = 5 := ((fr32 5 3 rfl).trans u30.1)
            exact s_vret kx_28_64 kq_28 ⟨_, rfl, rfl, hI32, hFm32, (by omega)⟩
  have he37 : M2 5 2 = M 5 2 := ((u2.2 5 2 (by omega)).trans (u1.2 5 2 (by omega)))
  exact cP.wk (lS1 rfl lS0) (key4 _ M2 hI2 hFm2 Fr.refl (by omega) (Nat.lt_succ_self _))
theorem kx_26_0 : x_code k_P 26 0 = some (.aload_n 0, 1) := by decide +kernel
theorem kx_26_1 : x_code k_P 26 1 = some (.getfield 17, 3) := by decide +kernel
theorem kp_26_17 : x_pool k_P 26 17 = (1, 3, 2) := by decide +kernel
theorem kx_26_4 : x_code k_P 26 4 = some (.istore_n 1, 1) := by decide +kernel
theorem km_26_1 : 1 < x_maxL k_P 26 := by decide +kernel
theorem kx_26_5 : x_code k_P 26 5 = some (.aload_n 0, 1) := by decide +kernel
theorem kx_26_6 : x_code k_P 26 6 = some (.getfield 20, 3) := by decide +kernel
theorem kp_26_20 : x_pool k_P 26 20 = (1, 3, 3) := by decide +kernel
theorem kx_26_9 : x_code k_P 26 9 = some (.iconst 1, 1) := by decide +kernel
theorem kx_26_10 : x_code k_P 26 10 = some (.if_icmp .eq 19, 3) := by decide +kernel
theorem kx_26_29 : x_code k_P 26 29 = some (.iconst 1, 1) := by decide +kernel
theorem kx_26_30 : x_code k_P 26 30 = some (.goto 4, 3) := by decide +kernel
theorem kx_26_13 : x_code k_P 26 13 = some (.aload_n 0, 1) := by decide +kernel
theorem kx_26_14 : x_code k_P 26 14 = some (.getfield 20, 3) := by decide +kernel
theorem kx_26_17 : x_code k_P 26 17 = some (.iconst 2, 1) := by decide +kernel
theorem kx_26_18 : x_code k_P 26 18 = some (.if_icmp .eq 11, 3) := by decide +kernel
theorem kx_26_21 : x_code k_P 26 21 = some (.aload_n 0, 1) := by decide +kernel
theorem kx_26_22 : x_code k_P 26 22 = some (.getfield 20, 3) := by decide +kernel
theorem kx_26_25 : x_code k_P 26 25 = some (.iconst 3, 1) := by decide +kernel
theorem kx_26_26 : x_code k_P 26 26 = some (.if_icmp .ne 7, 3) := by decide +kernel
theorem kx_26_33 : x_code k_P 26 33 = some (.iconst 0, 1) := by decide +kernel
theorem kx_26_34 : x_code k_P 26 34 = some (.istore_n 2, 1) := by decide +kernel
theorem km_26_2 : 2 < x_maxL k_P 26 := by decide +kernel
theorem kx_26_35 : x_code k_P 26 35 = some (.aload_n 0, 1) := by decide +kernel
theorem kx_26_36 : x_code k_P 26 36 = some (.invokevirtual 62, 3) := by decide +kernel
theorem kp_26_62 : x_pool k_P 26 62 = (2, 25, 0) := by decide +kernel
theorem ki_25 : x_mci k_P 25 = 3 := by decide +kernel
theorem kcl_25 : x_maxL k_P 25 ≤ 60 ∧ 1 ≤ x_maxL k_P 25 := by decide +kernel
theorem kx_26_39 : x_code k_P 26 39 = some (.istore_n 3, 1) := by decide +kernel
theorem km_26_3 : 3 < x_maxL k_P 26 := by decide +kernel
theorem kx_26_40 : x_code k_P 26 40 = some (.aload_n 0, 1) := by decide +kernel
theorem kx_26_41 : x_code k_P 26 41 = some (.aload_n 0, 1) := by decide +kernel
theorem kx_26_42 : x_code k_P 26 42 = some (.getfield 17, 3) := by decide +kernel
theorem kx_26_45 : x_code k_P 26 45 = some (.putfield 26, 3) := by decide +kernel
theorem kp_26_26 : x_pool k_P 26 26 = (1, 3, 5) := by decide +kernel
theorem kx_26_48 : x_code k_P 26 48 = some (.iload_n 3, 1) := by decide +kernel
theorem kx_26_49 : x_code k_P 26 49 = some (.ifCond .eq 9, 3) := by decide +kernel
theorem kx_26_58 : x_code k_P 26 58 = some (.aload_n 0, 1) := by decide +kernel
theorem kx_26_59 : x_code k_P 26 59 = some (.getfield 7, 3) := by decide +kernel
theorem kp_26_7 : x_pool k_P 26 7 = (1, 3, 0) := by decide +kernel
theorem kx_26_62 : x_code k_P 26 62 = some (.aload_n 0, 1) := by decide +kernel
theorem kx_26_63 : x_code k_P 26 63 = some (.getfield 17, 3) := by decide +kernel
theorem kx_26_66 : x_code k_P 26 66 = some (.iaload, 1) := by decide +kernel
theorem kx_26_67 : x_code k_P 26 67 = some (.invokestatic 65, 3) := by decide +kernel
theorem kp_26_65 : x_pool k_P 26 65 = (6, 30, 1) := by decide +kernel
theorem kx_26_70 : x_code k_P 26 70 = some (.istore 4, 2) := by decide +kernel
theorem km_26_4 : 4 < x_maxL k_P 26 := by decide +kernel
theorem kx_26_72 : x_code k_P 26 72 = some (.iload 4, 2) := by decide +kernel
theorem kx_26_74 : x_code k_P 26 74 = some (.ifCond .ne 49, 3) := by decide +kernel
theorem kx_26_123 : x_code k_P 26 123 = some (.iload_n 2, 1) := by decide +kernel
theorem kx_26_124 : x_code k_P 26 124 = some (.ifCond .eq 24, 3) := by decide +kernel
theorem kx_26_148 : x_code k_P 26 148 = some (.iload 4, 2) := by decide +kernel
theorem kx_26_150 : x_code k_P 26 150 = some (.ifCond .eq 10, 3) := by decide +kernel
theorem kx_26_153 : x_code k_P 26 153 = some (.aload_n 0, 1) := by decide +kernel
theorem kx_26_154 : x_code k_P 26 154 = some (.invokevirtual 72, 3) := by decide +kernel
theorem kp_26_72 : x_pool k_P 26 72 = (2, 27, 0) := by decide +kernel
theorem ki_27 : x_mci k_P 27 = 3 := by decide +kernel
theorem kcl_27 : x_maxL k_P 27 ≤ 60 ∧ 1 ≤ x_maxL k_P 27 := by decide +kernel
theorem kx_26_157 : x_code k_P 26 157 = some (.goto 7, 3) := by decide +kernel
theorem kx_26_164 : x_code k_P 26 164 = some (.return_, 1) := by decide +kernel
theorem kq_26 : x_retk k_P 26 = 0 := by decide +kernel
theorem kx_26_127 : x_code k_P 26 127 = some (.aload_n 0, 1) := by decide +kernel
theorem kx_26_128 : x_code k_P 26 128 = some (.getfield 26, 3) := by decide +kernel
theorem kx_26_131 : x_code k_P 26 131 = some (.iload_n 1, 1) := by decide +kernel
theorem kx_26_132 : x_code k_P 26 132 = some (.if_icmp .ne 16, 3) := by decide +kernel
theorem kx_26_135 : x_code k_P 26 135 = some (.aload_n 0, 1) := by decide +kernel
theorem kx_26_136 : x_code k_P 26 136 = some (.iconst 5, 1) := by decide +kernel
theorem kx_26_137 : x_code k_P 26 137 = some (.putfield 20, 3) := by decide +kernel
theorem kx_26_140 : x_code k_P 26 140 = some (.aload_n 0, 1) := by decide +kernel
theorem kx_26_141 : x_code k_P 26 141 = some (.invokevirtual 55, 3) := by decide +kernel
theorem kp_26_55 : x_pool k_P 26 55 = (2, 21, 0) := by decide +kernel
theorem ki_21 : x_mci k_P 21 = 3 := by decide +kernel
theorem kcl_21 : x_maxL k_P 21 ≤ 60 ∧ 1 ≤ x_maxL k_P 21 := by decide +kernel
theorem kx_26_144 : x_code k_P 26 144 = some (.pop, 1) := by decide +kernel
theorem kx_26_145 : x_code k_P 26 145 = some (.goto 19, 3) := by decide +kernel
theorem kx_26_77 : x_code k_P 26 77 = some (.aload_n 0, 1) := by decide +kernel
theorem kx_26_78 : x_code k_P 26 78 = some (.getfield 7, 3) := by decide +kernel
theorem kx_26_81 : x_code k_P 26 81 = some (.aload_n 0, 1) := by decide +kernel
theorem kx_26_82 : x_code k_P 26 82 = some (.getfield 17, 3) := by decide +kernel
theorem kx_26_85 : x_code k_P 26 85 = some (.iaload, 1) := by decide +kernel
theorem kx_26_86 : x_code k_P 26 86 = some (.invokestatic 69, 3) := by decide +kernel
theorem kp_26_69 : x_pool k_P 26 69 = (6, 31, 1) := by decide +kernel
theorem kx_26_89 : x_code k_P 26 89 = some (.ifCond .ne 34, 3) := by decide +kernel
theorem kx_26_160 : x_code k_P 26 160 = some (.aload_n 0, 1) := by decide +kernel
theorem kx_26_161 : x_code k_P 26 161 = some (.invokevirtual 75, 3) := by decide +kernel
theorem kp_26_75 : x_pool k_P 26 75 = (2, 28, 0) := by decide +kernel
theorem ki_28 : x_mci k_P 28 = 3 := by decide +kernel
theorem kcl_28 : x_maxL k_P 28 ≤ 60 ∧ 1 ≤ x_maxL k_P 28 := by decide +kernel
theorem kx_26_92 : x_code k_P 26 92 = some (.aload_n 0, 1) := by decide +kernel
theorem kx_26_93 : x_code k_P 26 93 = some (.iconst 4, 1) := by decide +kernel
theorem kx_26_94 : x_code k_P 26 94 = some (.putfield 20, 3) := by decide +kernel
theorem kx_26_97 : x_code k_P 26 97 = some (.aload_n 0, 1) := by decide +kernel
theorem kx_26_98 : x_code k_P 26 98 = some (.aload_n 0, 1) := by decide +kernel
theorem kx_26_99 : x_code k_P 26 99 = some (.getfield 7, 3) := by decide +kernel
theorem kx_26_102 : x_code k_P 26 102 = some (.aload_n 0, 1) := by decide +kernel
theorem kx_26_103 : x_code k_P 26 103 = some (.getfield 17, 3) := by decide +kernel
theorem kx_26_106 : x_code k_P 26 106 = some (.iaload, 1) := by decide +kernel
theorem kx_26_107 : x_code k_P 26 107 = some (.putfield 23, 3) := by decide +kernel
theorem kp_26_23 : x_pool k_P 26 23 = (1, 3, 4) := by decide +kernel
theorem kx_26_110 : x_code k_P 26 110 = some (.aload_n 0, 1) := by decide +kernel
theorem kx_26_111 : x_code k_P 26 111 = some (.dup, 1) := by decide +kernel
theorem kx_26_112 : x_code k_P 26 112 = some (.getfield 17, 3) := by decide +kernel
theorem kx_26_115 : x_code k_P 26 115 = some (.iconst 1, 1) := by decide +kernel
theorem kx_26_116 : x_code k_P 26 116 = some (.iadd, 1) := by decide +kernel
theorem kx_26_117 : x_code k_P 26 117 = some (.putfield 17, 3) := by decide +kernel
theorem kx_26_120 : x_code k_P 26 120 = some (.goto 44, 3) := by decide +kernel
theorem kx_26_52 : x_code k_P 26 52 = some (.aload_n 0, 1) := by decide +kernel
theorem kx_26_53 : x_code k_P 26 53 = some (.iconst 0, 1) := by decide +kernel
theorem kx_26_54 : x_code k_P 26 54 = some (.putfield 20, 3) := by decide +kernel
theorem kx_26_57 : x_code k_P 26 57 = some (.return_, 1) := by decide +kernel
def fS_26_m : List (Nat × Nat) := [(5, 2), (5, 3), (5, 4), (5, 5), (5, 6), (5, 7)]
def fS_26_j10 : List (Nat × Nat) := []
theorem m_26 {xs : Nat → Int} {Ln d : Nat} {T : List cK} {M : cM} (hT : TT T) (hI : Rng M) (h50 : M 5 0 = ((2 : Nat) : Int)) : cC k_P xs Ln (d + 2) 26 [rf 5] (T, M) (qV T M fS_26_m (fun M1 => M 5 2 ≤ M1 5 2 ∧ (M1 5 3 = 0 ∨ M1 5 3 = 5 ∨ M 5 2 + 1 ≤ M1 5 2))) := by
  show cP k_P xs Ln (d + 2) 26 0 [(0, rf 5)] [] (T, M) _
  have hFm : Fr fS_26_m M M := Fr.refl
  refine s_aload_n kx_26_0 rfl ?_
  refine r_getI (k := 5) (f := 2) kx_26_1 kp_26_17 (tk_5 hT) kf_3_2 (fun _ => rfl) (rg_5_2 hI) (fun v1 v1e v1a v1b => ?_)
  refine s_istore_n kx_26_4 km_26_1 rfl ?_
  refine s_aload_n kx_26_5 rfl ?_
  refine r_getI (k := 5) (f := 3) kx_26_6 kp_26_20 (tk_5 hT) kf_3_3 (fun _ => rfl) (rg_5_3 hI) (fun v2 v2e v2a v2b => ?_)
  refine s_iconst (v := 1) kx_26_9 (by decide) ?_
  have jn9 : ∀ (y8 : Int), (0 ≤ y8) → (y8 ≤ 1) → cP k_P xs Ln (d + 2) 26 34 [(0, rf 5), (1, (0, v1))] [(0, y8)] (T, M) (qV T M fS_26_m (fun M1 => M 5 2 ≤ M1 5 2 ∧ (M1 5 3 = 0 ∨ M1 5 3 = 5 ∨ M 5 2 + 1 ≤ M1 5 2))) := by
    intro y8 a10 a11
    refine s_istore_n kx_26_34 km_26_2 rfl ?_
    refine s_aload_n kx_26_35 rfl ?_
    refine s_callV2 (k := 5) (s1 := 1) (s2 := 0) (as := []) (rest := []) kx_26_36 kp_26_62 (Or.inl rfl) rfl (tk_5 hT) ki_25 kcl_25 rfl rfl (by decide) (m_25 (d := d + 1) hT hI h50) (kW (fun v12 M13 hI13 fr13 v12p => ?_))
    have hFm13 := hFm.call fr13 rfl
    have tr14 := (fr13 5 1 rfl)
    have tr15 := rg_5_1 hI13
    refine s_istore_n kx_26_39 km_26_3 rfl ?_
    refine s_aload_n kx_26_40 rfl ?_
    refine s_aload_n kx_26_41 rfl ?_
    refine r_getI (k := 5) (f := 2) kx_26_42 kp_26_17 (tk_5 hT) kf_3_2 (fun _ => rfl) (rg_5_2 hI13) (fun v16 v16e v16a v16b => ?_)
    refine r_put (k := 5) (f := 5) kx_26_45 kp_26_26 (tk_5 hT) kf_3_5 rfl (by decide) (by decide) hI13 (ru_5_5 (by omega) (by omega)) (fun M17 hI17 u17 => ?_)
    have hFm17 := hFm13.up u17 rfl
    refine s_iload_n kx_26_48 rfl ?_
    refine s_if_eq (t := 58) kx_26_49 (by decide) (fun hc18 => ?_) (fun hc18 => ?_)
    · replace v12p := v12p.resolve_left (by omega)
      refine s_aload_n kx_26_58 rfl ?_
      refine r_getR (k := 5) (f := 0) (k2 := 2) kx_26_59 kp_26_7 (tk_5 hT) kf_3_0 (by decide) ((u17.2 5 0 (by omega)).trans ((fr13 5 0 rfl).trans h50)) ?_
      refine s_aload_n kx_26_62 rfl ?_
      refine r_getK (k := 5) (f := 2) kx_26_63 kp_26_17 (tk_5 hT) kf_3_2 (fun _ => rfl) ((u17.2 5 2 (by omega)).trans v16e) ?_
      have hk19 : M17 5 2 = v16 := ((u17.2 5 2 (by omega)).trans v16e)
      have he20 : M17 5 1 = _ := (u17.2 5 1 (by omega))
      refine r_ald (k := 2) kx_26_66 (tk_2 hT) ⟨by omega, by omega⟩ (rg_2 hI17) (fun v21 v21e v21a v21b => ?_)
      refine s_callS2 (s1 := 1) (s2 := 0) (as := [(0, v21)]) (rest := []) kx_26_67 kp_26_65 rfl kcl_30 rfl rfl (by decide) (m_30 (d := d + 1) (c := v21) hT hI17) (kF (fun v22 v22p => ?_))
      refine s_istore kx_26_70 km_26_4 rfl ?_
      refine s_iload kx_26_72 rfl ?_
      refine s_if_ne (t := 123) kx_26_74 (by decide) (fun hc23 => ?_) (fun hc23 => ?_)
      · replace v22p := v22p.resolve_right (by omega)
        refine s_iload_n kx_26_123 rfl ?_
        refine s_if_eq (t := 148) kx_26_124 (by decide) (fun hc24 => ?_) (fun hc24 => ?_)
        · refine s_iload kx_26_148 rfl ?_
          refine s_if_eq (t := 160) kx_26_150 (by decide) (fun hc25 => absurd hc25 (by omega)) (fun hc25 => ?_)
          refine s_aload_n kx_26_153 rfl ?_
          have hk26 : M17 5 2 = v16 := ((u17.2 5 2 (by omega)).trans v16e)
          have hk27 : M17 2 (v16).toNat = v21 := v21e
          refine s_callV2 (k := 5) (s1 := 1) (s2 := 0) (as := []) (rest := []) kx_26_154 kp_26_72 (Or.inl rfl) rfl (tk_5 hT) ki_27 kcl_27 rfl rfl (by decide) (m_27 (d := d) hT hI17 ((u17.2 5 0 (by omega)).trans ((fr13 5 0 rfl).trans h50)) (by omega) (fun z hz => by have e : z = v16 := (by omega); rw [e]; omega)) (kV (fun M29 hI29 fr29 v28p => ?_))
          have hFm29 := hFm17.call fr29 rfl
          have tr30 := (fr29 5 1 rfl)
          have tr31 := rg_5_1 hI29
          refine s_goto (t := 164) kx_26_157 (by decide) ?_
          exact s_vret kx_26_164 kq_26 ⟨_, rfl, rfl, hI29, hFm29, (by omega)⟩
        · refine s_aload_n kx_26_127 rfl ?_
          refine r_getK (k := 5) (f := 5) kx_26_128 kp_26_26 (tk_5 hT) kf_3_5 (fun _ => rfl) u17.1 ?_
          refine s_iload_n kx_26_131 rfl ?_
          refine s_icmp_ne (t := 148) kx_26_132 (by decide) (fun hc32 => ?_) (fun hc32 => ?_)
          · refine s_iload kx_26_148 rfl ?_
            refine s_if_eq (t := 160) kx_26_150 (by decide) (fun hc33 => absurd hc33 (by omega)) (fun hc33 => ?_)
            refine s_aload_n kx_26_153 rfl ?_
            have hk34 : M17 5 2 = v16 := ((u17.2 5 2 (by omega)).trans v16e)
            have hk35 : M17 2 (v16).toNat = v21 := v21e
            refine s_callV2 (k := 5) (s1 := 1) (s2 := 0) (as := []) (rest := []) kx_26_154 kp_26_72 (Or.inl rfl) rfl (tk_5 hT) ki_27 kcl_27 rfl rfl (by decide) (m_27 (d := d) hT hI17 ((u17.2 5 0 (by omega)).trans ((fr13 5 0 rfl).trans h50)) (by omega) (fun z hz => by have e : z = v16 := (by omega); rw [e]; omega)) (kV (fun M37 hI37 fr37 v36p => ?_))
            have hFm37 := hFm17.call fr37 rfl
            have tr38 := (fr37 5 1 rfl)
            have tr39 := rg_5_1 hI37
            refine s_goto (t := 164) kx_26_157 (by decide) ?_
            exact s_vret kx_26_164 kq_26 ⟨_, rfl, rfl, hI37, hFm37, (by omega)⟩
          · refine s_aload_n kx_26_135 rfl ?_
            refine s_iconst (v := 5) kx_26_136 (by decide) ?_
            refine r_put (k := 5) (f := 3) kx_26_137 kp_26_20 (tk_5 hT) kf_3_3 rfl (by decide) (by decide) hI17 (ru_5_3 (by omega) (by omega)) (fun M40 hI40 u40 => ?_)
            have hFm40 := hFm17.up u40 rfl
            refine s_aload_n kx_26_140 rfl ?_
            refine s_callV2 (k := 5) (s1 := 1) (s2 := 0) (as := []) (rest := []) kx_26_141 kp_26_55 (Or.inl rfl) rfl (tk_5 hT) ki_21 kcl_21 rfl rfl (by decide) (m_21 (d := d) hT hI40) (kW (fun v41 M42 hI42 fr42 v41p => ?_))
            have hFm42 := hFm40.call fr42 rfl
            have tr43 := (fr42 5 2 rfl)
            have tr44 := (fr42 5 1 rfl)
            have tr45 := rg_5_1 hI42
            refine s_pop kx_26_144 rfl ?_
            refine s_goto (t := 164) kx_26_145 (by decide) ?_
            have hk46 : M42 5 2 = v16 := ((fr42 5 2 rfl).trans ((u40.2 5 2 (by omega)).trans ((u17.2 5 2 (by omega)).trans v16e)))
            have hk47 : M42 5 3 = 5 := ((fr42 5 3 rfl).trans u40.1)
            exact s_vret kx_26_164 kq_26 ⟨_, rfl, rfl, hI42, hFm42, (by omega)⟩
      · replace v22p := v22p.resolve_left (by omega)
        refine s_aload_n kx_26_77 rfl ?_
        refine r_getR (k := 5) (f := 0) (k2 := 2) kx_26_78 kp_26_7 (tk_5 hT) kf_3_0 (by decide) ((u17.2 5 0 (by omega)).trans ((fr13 5 0 rfl).trans h50)) ?_
        refine s_aload_n kx_26_81 rfl ?_
        refine r_getK (k := 5) (f := 2) kx_26_82 kp_26_17 (tk_5 hT) kf_3_2 (fun _ => rfl) ((u17.2 5 2 (by omega)).trans v16e) ?_
        refine r_aldK (k := 2) kx_26_85 (tk_2 hT) ⟨by omega, by omega⟩ v21e ?_
        refine s_callS2 (s1 := 1) (s2 := 0) (as := [(0, v21)]) (rest := []) kx_26_86 kp_26_69 rfl kcl_31 rfl rfl (by decide) (m_31 (d := d + 1) (c := v21) hT hI17) (kF (fun v48 v48p => ?_))
        refine s_if_ne (t := 123) kx_26_89 (by decide) (fun hc49 => ?_) (fun hc49 => ?_)
        · replace v48p := v48p.resolve_right (by omega)
          refine s_iload_n kx_26_123 rfl ?_
          refine s_if_eq (t := 148) kx_26_124 (by decide) (fun hc50 => ?_) (fun hc50 => ?_)
          · refine s_iload kx_26_148 rfl ?_
            refine s_if_eq (t := 160) kx_26_150 (by decide) (fun hc51 => ?_) (fun hc51 => absurd hc51 (by omega))
            refine s_aload_n kx_26_160 rfl ?_
            have hk52 : M17 5 2 = v16 := ((u17.2 5 2 (by omega)).trans v16e)
            have hk53 : M17 2 (v16).toNat = v21 := v21e
            refine s_callV2 (k := 5) (s1 := 1) (s2 := 0) (as := []) (rest := []) kx_26_161 kp_26_75 (Or.inl rfl) rfl (tk_5 hT) ki_28 kcl_28 rfl rfl (by decide) (m_28 (d := d) hT hI17 ((u17.2 5 0 (by omega)).trans ((fr13 5 0 rfl).trans h50)) (by omega) (fun z hz => by have e : z = v16 := (by omega); rw [e]; omega)) (kV (fun M55 hI55 fr55 v54p => ?_))
            have hFm55 := hFm17.call fr55 rfl
            have tr56 := (fr55 5 1 rfl)
            have tr57 := rg_5_1 hI55
            exact s_vret kx_26_164 kq_26 ⟨_, rfl, rfl, hI55, hFm55, (by omega)⟩
          · refine s_aload_n kx_26_127 rfl ?_
            refine r_getK (k := 5) (f := 5) kx_26_128 kp_26_26 (tk_5 hT) kf_3_5 (fun _ => rfl) u17.1 ?_
            refine s_iload_n kx_26_131 rfl ?_
            refine s_icmp_ne (t := 148) kx_26_132 (by decide) (fun hc58 => ?_) (fun hc58 => ?_)
            · refine s_iload kx_26_148 rfl ?_
              refine s_if_eq (t := 160) kx_26_150 (by decide) (fun hc59 => ?_) (fun hc59 => absurd hc59 (by omega))
              refine s_aload_n kx_26_160 rfl ?_
              have hk60 : M17 5 2 = v16 := ((u17.2 5 2 (by omega)).trans v16e)
              have hk61 : M17 2 (v16).toNat = v21 := v21e
              refine s_callV2 (k := 5) (s1 := 1) (s2 := 0) (as := []) (rest := []) kx_26_161 kp_26_75 (Or.inl rfl) rfl (tk_5 hT) ki_28 kcl_28 rfl rfl (by decide) (m_28 (d := d) hT hI17 ((u17.2 5 0 (by omega)).trans ((fr13 5 0 rfl).trans h50)) (by omega) (fun z hz => by have e : z = v16 := (by omega); rw [e]; omega)) (kV (fun M63 hI63 fr63 v62p => ?_))
              have hFm63 := hFm17.call fr63 rfl
              have tr64 := (fr63 5 1 rfl)
              have tr65 := rg_5_1 hI63
              exact s_vret kx_26_164 kq_26 ⟨_, rfl, rfl, hI63, hFm63, (by omega)⟩
            · refine s_aload_n kx_26_135 rfl ?_
              refine s_iconst (v := 5) kx_26_136 (by decide) ?_
              refine r_put (k := 5) (f := 3) kx_26_137 kp_26_20 (tk_5 hT) kf_3_3 rfl (by decide) (by decide) hI17 (ru_5_3 (by omega) (by omega)) (fun M66 hI66 u66 => ?_)
              have hFm66 := hFm17.up u66 rfl
              refine s_aload_n kx_26_140 rfl ?_
              refine s_callV2 (k := 5) (s1 := 1) (s2 := 0) (as := []) (rest := []) kx_26_141 kp_26_55 (Or.inl rfl) rfl (tk_5 hT) ki_21 kcl_21 rfl rfl (by decide) (m_21 (d := d) hT hI66) (kW (fun v67 M68 hI68 fr68 v67p => ?_))
              have hFm68 := hFm66.call fr68 rfl
              have tr69 := (fr68 5 2 rfl)
              have tr70 := (fr68 5 1 rfl)
              have tr71 := rg_5_1 hI68
              refine s_pop kx_26_144 rfl ?_
              refine s_goto (t := 164) kx_26_145 (by decide) ?_
              have hk72 : M68 5 2 = v16 := ((fr68 5 2 rfl).trans ((u66.2 5 2 (by omega)).trans ((u17.2 5 2 (by omega)).trans v16e)))
              have hk73 : M68 5 3 = 5 := ((fr68 5 3 rfl).trans u66.1)
              exact s_vret kx_26_164 kq_26 ⟨_, rfl, rfl, hI68, hFm68, (by omega)⟩
        · replace v48p := v48p.resolve_left (by omega)
          refine s_aload_n kx_26_92 rfl ?_
          refine s_iconst (v := 4) kx_26_93 (by decide) ?_
          refine r_put (k := 5) (f := 3) kx_26_94 kp_26_20 (tk_5 hT) kf_3_3 rfl (by decide) (by decide) hI17 (ru_5_3 (by omega) (by omega)) (fun M74 hI74 u74 => ?_)
          have hFm74 := hFm17.up u74 rfl
          refine s_aload_n kx_26_97 rfl ?_
          refine s_aload_n kx_26_98 rfl ?_
          refine r_getR (k := 5) (f := 0) (k2 := 2) kx_26_99 kp_26_7 (tk_5 hT) kf_3_0 (by decide) ((u74.2 5 0 (by omega)).trans ((u17.2 5 0 (by omega)).trans ((fr13 5 0 rfl).trans h50))) ?_
          refine s_aload_n kx_26_102 rfl ?_
          refine r_getK (k := 5) (f := 2) kx_26_103 kp_26_17 (tk_5 hT) kf_3_2 (fun _ => rfl) ((u74.2 5 2 (by omega)).trans ((u17.2 5 2 (by omega)).trans v16e)) ?_
          refine r_aldK (k := 2) kx_26_106 (tk_2 hT) ⟨by omega, by omega⟩ ((u74.2 2 _ (by omega)).trans v21e) ?_
          refine r_put (k := 5) (f := 4) kx_26_107 kp_26_23 (tk_5 hT) kf_3_4 rfl (by decide) (by decide) hI74 ru_5_4 (fun M75 hI75 u75 => ?_)
          have hFm75 := hFm74.up u75 rfl
          refine s_aload_n kx_26_110 rfl ?_
          refine s_dup kx_26_111 rfl ?_
          refine r_getK (k := 5) (f := 2) kx_26_112 kp_26_17 (tk_5 hT) kf_3_2 (fun _ => rfl) ((u75.2 5 2 (by omega)).trans ((u74.2 5 2 (by omega)).trans ((u17.2 5 2 (by omega)).trans v16e))) ?_
          refine s_iconst (v := 1) kx_26_115 (by decide) ?_
          refine r_add kx_26_116 ⟨by omega, by omega⟩ ?_
          refine r_put (k := 5) (f := 2) kx_26_117 kp_26_17 (tk_5 hT) kf_3_2 rfl (by decide) (by decide) hI75 (ru_5_2 (by omega) (by omega)) (fun M76 hI76 u76 => ?_)
          have hFm76 := hFm75.up u76 rfl
          refine s_goto (t := 164) kx_26_120 (by decide) ?_
          have hk77 : M76 5 2 = (v16 + 1) := u76.1
          have hk78 : M76 5 3 = 4 := ((u76.2 5 3 (by omega)).trans ((u75.2 5 3 (by omega)).trans u74.1))
          exact s_vret kx_26_164 kq_26 ⟨_, rfl, rfl, hI76, hFm76, (by omega)⟩
    · replace v12p := v12p.resolve_right (by omega)
      refine s_aload_n kx_26_52 rfl ?_
      refine s_iconst (v := 0) kx_26_53 (by decide) ?_
      refine r_put (k := 5) (f := 3) kx_26_54 kp_26_20 (tk_5 hT) kf_3_3 rfl (by decide) (by decide) hI17 (ru_5_3 (by omega) (by omega)) (fun M79 hI79 u79 => ?_)
      have hFm79 := hFm17.up u79 rfl
      have hk80 : M79 5 2 = v16 := ((u79.2 5 2 (by omega)).trans ((u17.2 5 2 (by omega)).trans v16e))
      have hk81 : M79 5 3 = 0 := u79.1
      exact s_vret kx_26_57 kq_26 ⟨_, rfl, rfl, hI79, hFm79, (by omega)⟩
  refine s_icmp_eq (t := 29) kx_26_10 (by decide) (fun hc3 => ?_) (fun hc3 => ?_)
  · have hJ4 : Fr fS_26_j10 M M := Fr.refl
    refine s_iconst (v := 1) kx_26_29 (by decide) ?_
    refine s_goto (t := 34) kx_26_30 (by decide) ?_
    exact cP.wk (lS1 rfl (lS1 rfl lS0)) (jn9 1 (by omega) (by omega))
  · have hJ5 : Fr fS_26_j10 M M := Fr.refl
    refine s_aload_n kx_26_13 rfl ?_
    refine r_getK (k := 5) (f := 3) kx_26_14 kp_26_20 (tk_5 hT) kf_3_3 (fun _ => rfl) v2e ?_
    refine s_iconst (v := 2) kx_26_17 (by decide) ?_
    refine s_icmp_eq (t := 29) kx_26_18 (by decide) (fun hc6 => ?_) (fun hc6 => ?_)
    · refine s_iconst (v := 1) kx_26_29 (by decide) ?_
      refine s_goto (t := 34) kx_26_30 (by decide) ?_
      exact cP.wk (lS1 rfl (lS1 rfl lS0)) (jn9 1 (by omega) (by omega))
    · refine s_aload_n kx_26_21 rfl ?_
      refine r_getK (k := 5) (f := 3) kx_26_22 kp_26_20 (tk_5 hT) kf_3_3 (fun _ => rfl) v2e ?_
      refine s_iconst (v := 3) kx_26_25 (by decide) ?_
      refine s_icmp_ne (t := 33) kx_26_26 (by decide) (fun hc7 => ?_) (fun hc7 => ?_)
      · refine s_iconst (v := 0) kx_26_33 (by decide) ?_
        exact cP.wk (lS1 rfl (lS1 rfl lS0)) (jn9 0 (by omega) (by omega))
      · refine s_iconst (v := 1) kx_26_29 (by decide) ?_
        refine s_goto (t := 34) kx_26_30 (by decide) ?_
        exact cP.wk (lS1 rfl (lS1 rfl lS0)) (jn9 1 (by omega) (by omega))
theorem kx_24_0 : x_code k_P 24 0 = some (.aload_n 0, 1) := by decide +kernel
theorem kx_24_1 : x_code k_P 24 1 = some (.iload_n 1, 1) := by decide +kernel
theorem kx_24_2 : x_code k_P 24 2 = some (.invokevirtual 51, 3) := by decide +kernel
theorem kp_24_51 : x_pool k_P 24 51 = (2, 23, 1) := by decide +kernel
theorem ki_23 : x_mci k_P 23 = 3 := by decide +kernel
theorem kcl_23 : x_maxL k_P 23 ≤ 60 ∧ 2 ≤ x_maxL k_P 23 := by decide +kernel
theorem kx_24_5 : x_code k_P 24 5 = some (.ifCond .ne 8, 3) := by decide +kernel
theorem kx_24_13 : x_code k_P 24 13 = some (.aload_n 0, 1) := by decide +kernel
theorem kx_24_14 : x_code k_P 24 14 = some (.invokevirtual 59, 3) := by decide +kernel
theorem kp_24_59 : x_pool k_P 24 59 = (2, 26, 0) := by decide +kernel
theorem ki_26 : x_mci k_P 26 = 3 := by decide +kernel
theorem kcl_26 : x_maxL k_P 26 ≤ 60 ∧ 1 ≤ x_maxL k_P 26 := by decide +kernel
theorem kx_24_17 : x_code k_P 24 17 = some (.iconst 1, 1) := by decide +kernel
theorem kx_24_18 : x_code k_P 24 18 = some (.ireturn, 1) := by decide +kernel
theorem kq_24 : x_retk k_P 24 = 2 := by decide +kernel
theorem kx_24_8 : x_code k_P 24 8 = some (.aload_n 0, 1) := by decide +kernel
theorem kx_24_9 : x_code k_P 24 9 = some (.invokevirtual 55, 3) := by decide +kernel
theorem kp_24_55 : x_pool k_P 24 55 = (2, 21, 0) := by decide +kernel
theorem kx_24_12 : x_code k_P 24 12 = some (.ireturn, 1) := by decide +kernel
def fS_24_m : List (Nat × Nat) := [(5, 2), (5, 3), (5, 4), (5, 5), (5, 6), (5, 7)]
theorem m_24 {xs : Nat → Int} {Ln d : Nat} {T : List cK} {M : cM} (hT : TT T) (hI : Rng M) (h50 : M 5 0 = ((2 : Nat) : Int)) {c : Int} : cC k_P xs Ln (d + 3) 24 [rf 5, (0, c)] (T, M) (qW T M fS_24_m 0 (fun v M1 => (v = 1 ∧ M 5 3 = 4 ∧ M 5 2 ≤ M1 5 2 ∧ (M1 5 3 = 0 ∨ M1 5 3 = 5 ∨ M 5 2 + 1 ≤ M1 5 2)) ∨ (v = 0 ∧ M1 5 2 = M 5 2))) := by
  show cP k_P xs Ln (d + 3) 24 0 [(0, rf 5), (1, (0, c))] [] (T, M) _
  have hFm : Fr fS_24_m M M := Fr.refl
  refine s_aload_n kx_24_0 rfl ?_
  refine s_iload_n kx_24_1 rfl ?_
  refine s_callV2 (k := 5) (s1 := 2) (s2 := 0) (as := [(0, c)]) (rest := []) kx_24_2 kp_24_51 (Or.inl rfl) rfl (tk_5 hT) ki_23 kcl_23 rfl rfl (by decide) (m_23 (d := d + 2) (c := c) hT hI) (kF (fun v1 v1p => ?_))
  refine s_if_ne (t := 13) kx_24_5 (by decide) (fun hc2 => ?_) (fun hc2 => ?_)
  · replace v1p := v1p.resolve_right (by omega)
    refine s_aload_n kx_24_13 rfl ?_
    refine s_callV2 (k := 5) (s1 := 1) (s2 := 0) (as := []) (rest := []) kx_24_14 kp_24_59 (Or.inl rfl) rfl (tk_5 hT) ki_26 kcl_26 rfl rfl (by decide) (m_26 (d := d) hT hI h50) (kV (fun M4 hI4 fr4 v3p => ?_))
    have hFm4 := hFm.call fr4 rfl
    refine s_iconst (v := 1) kx_24_17 (by decide) ?_
    exact s_iret kx_24_18 (Or.inr ⟨kq_24, by omega⟩) ⟨_, _, rfl, rfl, hI4, hFm4, (by omega)⟩
  · replace v1p := v1p.resolve_left (by omega)
    refine s_aload_n kx_24_8 rfl ?_
    refine s_callV2 (k := 5) (s1 := 1) (s2 := 0) (as := []) (rest := []) kx_24_9 kp_24_55 (Or.inl rfl) rfl (tk_5 hT) ki_21 kcl_21 rfl rfl (by decide) (m_21 (d := d + 1) hT hI) (kW (fun v5 M6 hI6 fr6 v5p => ?_))
    have hFm6 := hFm.call fr6 rfl
    have tr7 := (fr6 5 2 rfl)
    have tr8 := (fr6 5 3 rfl)
    exact s_iret kx_24_12 (Or.inr ⟨kq_24, by omega⟩) ⟨_, _, rfl, rfl, hI6, hFm6, (by omega)⟩
