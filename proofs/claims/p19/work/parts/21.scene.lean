theorem kx_43_0 : x_code k_P 43 0 = some (.aload_n 0, 1) := by decide +kernel
theorem kx_43_1 : x_code k_P 43 1 = some (.getfield 21, 3) := by decide +kernel
theorem kp_43_21 : x_pool k_P 43 21 = (1, 5, 2) := by decide +kernel
theorem kf_5_2 : (x_cls k_P 5)[2]? = some 12 := by decide +kernel
theorem kx_43_4 : x_code k_P 43 4 = some (.iconst 0, 1) := by decide +kernel
theorem kx_43_5 : x_code k_P 43 5 = some (.iload_n 1, 1) := by decide +kernel
theorem kx_43_6 : x_code k_P 43 6 = some (.iadd, 1) := by decide +kernel
theorem kx_43_7 : x_code k_P 43 7 = some (.iaload, 1) := by decide +kernel
theorem kx_43_8 : x_code k_P 43 8 = some (.ireturn, 1) := by decide +kernel
theorem kq_43 : x_retk k_P 43 = 1 := by decide +kernel
theorem m_43 {xs : Nat → Int} {Ln d : Nat} {T : List cK} {M : cM} (hT : TT T) (hI : Rng M) {person : Int} (p0 : 0 ≤ person ∧ person ≤ 7) : cC k_P xs Ln (d + 0) 43 [rf 7, (0, person)] (T, M) (qF T M 0 (fun v => 0 ≤ v ∧ v ≤ 7)) := by
  show cP k_P xs Ln (d + 0) 43 0 [(0, rf 7), (1, (0, person))] [] (T, M) _
  refine s_aload_n kx_43_0 rfl ?_
  refine r_getR (k := 7) (f := 2) (k2 := 42) kx_43_1 kp_43_21 (tk_7 hT) kf_5_2 (by decide) (rq_7_2 hI) ?_
  refine s_iconst (v := 0) kx_43_4 (by decide) ?_
  refine s_iload_n kx_43_5 rfl ?_
  refine r_add kx_43_6 ⟨by omega, by omega⟩ ?_
  refine r_ald (k := 42) kx_43_7 (tk_42 hT) ⟨by omega, by omega⟩ (rgA hI (by omega)) (fun v1 v1e v1a v1b => ?_)
  exact s_iret kx_43_8 (Or.inl kq_43) ⟨_, rfl, rfl, (by omega)⟩
theorem kx_44_0 : x_code k_P 44 0 = some (.aload_n 0, 1) := by decide +kernel
theorem kx_44_1 : x_code k_P 44 1 = some (.getfield 21, 3) := by decide +kernel
theorem kp_44_21 : x_pool k_P 44 21 = (1, 5, 2) := by decide +kernel
theorem kx_44_4 : x_code k_P 44 4 = some (.bipush 8, 2) := by decide +kernel
theorem kx_44_6 : x_code k_P 44 6 = some (.iload_n 1, 1) := by decide +kernel
theorem kx_44_7 : x_code k_P 44 7 = some (.iadd, 1) := by decide +kernel
theorem kx_44_8 : x_code k_P 44 8 = some (.iaload, 1) := by decide +kernel
theorem kx_44_9 : x_code k_P 44 9 = some (.ireturn, 1) := by decide +kernel
theorem kq_44 : x_retk k_P 44 = 1 := by decide +kernel
theorem m_44 {xs : Nat → Int} {Ln d : Nat} {T : List cK} {M : cM} (hT : TT T) (hI : Rng M) {chair : Int} (p0 : 0 ≤ chair ∧ chair ≤ 7) : cC k_P xs Ln (d + 0) 44 [rf 7, (0, chair)] (T, M) (qF T M 0 (fun v => 0 ≤ v ∧ v ≤ 7)) := by
  show cP k_P xs Ln (d + 0) 44 0 [(0, rf 7), (1, (0, chair))] [] (T, M) _
  refine s_aload_n kx_44_0 rfl ?_
  refine r_getR (k := 7) (f := 2) (k2 := 42) kx_44_1 kp_44_21 (tk_7 hT) kf_5_2 (by decide) (rq_7_2 hI) ?_
  refine s_bipush (v := 8) kx_44_4 (by decide) ?_
  refine s_iload_n kx_44_6 rfl ?_
  refine r_add kx_44_7 ⟨by omega, by omega⟩ ?_
  refine r_ald (k := 42) kx_44_8 (tk_42 hT) ⟨by omega, by omega⟩ (rgA hI (by omega)) (fun v1 v1e v1a v1b => ?_)
  exact s_iret kx_44_9 (Or.inl kq_44) ⟨_, rfl, rfl, (by omega)⟩
theorem kx_45_0 : x_code k_P 45 0 = some (.aload_n 0, 1) := by decide +kernel
theorem kx_45_1 : x_code k_P 45 1 = some (.getfield 21, 3) := by decide +kernel
theorem kp_45_21 : x_pool k_P 45 21 = (1, 5, 2) := by decide +kernel
theorem kx_45_4 : x_code k_P 45 4 = some (.bipush 16, 2) := by decide +kernel
theorem kx_45_6 : x_code k_P 45 6 = some (.iload_n 1, 1) := by decide +kernel
theorem kx_45_7 : x_code k_P 45 7 = some (.iadd, 1) := by decide +kernel
theorem kx_45_8 : x_code k_P 45 8 = some (.iaload, 1) := by decide +kernel
theorem kx_45_9 : x_code k_P 45 9 = some (.ifCond .eq 7, 3) := by decide +kernel
theorem kx_45_16 : x_code k_P 45 16 = some (.iconst 0, 1) := by decide +kernel
theorem kx_45_17 : x_code k_P 45 17 = some (.ireturn, 1) := by decide +kernel
theorem kq_45 : x_retk k_P 45 = 2 := by decide +kernel
theorem kx_45_12 : x_code k_P 45 12 = some (.iconst 1, 1) := by decide +kernel
theorem kx_45_13 : x_code k_P 45 13 = some (.goto 4, 3) := by decide +kernel
theorem m_45 {xs : Nat → Int} {Ln d : Nat} {T : List cK} {M : cM} (hT : TT T) (hI : Rng M) {chair : Int} (p0 : 0 ≤ chair ∧ chair ≤ 7) : cC k_P xs Ln (d + 0) 45 [rf 7, (0, chair)] (T, M) (qF T M 0 (fun v => 0 ≤ v ∧ v ≤ 1)) := by
  show cP k_P xs Ln (d + 0) 45 0 [(0, rf 7), (1, (0, chair))] [] (T, M) _
  refine s_aload_n kx_45_0 rfl ?_
  refine r_getR (k := 7) (f := 2) (k2 := 42) kx_45_1 kp_45_21 (tk_7 hT) kf_5_2 (by decide) (rq_7_2 hI) ?_
  refine s_bipush (v := 16) kx_45_4 (by decide) ?_
  refine s_iload_n kx_45_6 rfl ?_
  refine r_add kx_45_7 ⟨by omega, by omega⟩ ?_
  refine r_aldU (k := 42) kx_45_8 (tk_42 hT) ⟨by omega, by omega⟩ (fun v1 v1e => ?_)
  refine s_if_eq (t := 16) kx_45_9 (by decide) (fun hc2 => ?_) (fun hc2 => ?_)
  · refine s_iconst (v := 0) kx_45_16 (by decide) ?_
    exact s_iret kx_45_17 (Or.inr ⟨kq_45, by omega⟩) ⟨_, rfl, rfl, (by omega)⟩
  · refine s_iconst (v := 1) kx_45_12 (by decide) ?_
    refine s_goto (t := 17) kx_45_13 (by decide) ?_
    exact s_iret kx_45_17 (Or.inr ⟨kq_45, by omega⟩) ⟨_, rfl, rfl, (by omega)⟩
theorem kx_46_0 : x_code k_P 46 0 = some (.aload_n 0, 1) := by decide +kernel
theorem kx_46_1 : x_code k_P 46 1 = some (.getfield 21, 3) := by decide +kernel
theorem kp_46_21 : x_pool k_P 46 21 = (1, 5, 2) := by decide +kernel
theorem kx_46_4 : x_code k_P 46 4 = some (.bipush 24, 2) := by decide +kernel
theorem kx_46_6 : x_code k_P 46 6 = some (.iload_n 1, 1) := by decide +kernel
theorem kx_46_7 : x_code k_P 46 7 = some (.iadd, 1) := by decide +kernel
theorem kx_46_8 : x_code k_P 46 8 = some (.iaload, 1) := by decide +kernel
theorem kx_46_9 : x_code k_P 46 9 = some (.ireturn, 1) := by decide +kernel
theorem kq_46 : x_retk k_P 46 = 1 := by decide +kernel
theorem m_46 {xs : Nat → Int} {Ln d : Nat} {T : List cK} {M : cM} (hT : TT T) (hI : Rng M) {person : Int} (p0 : 0 ≤ person ∧ person ≤ 7) : cC k_P xs Ln (d + 0) 46 [rf 7, (0, person)] (T, M) (qF T M 0 (fun v => True)) := by
  show cP k_P xs Ln (d + 0) 46 0 [(0, rf 7), (1, (0, person))] [] (T, M) _
  refine s_aload_n kx_46_0 rfl ?_
  refine r_getR (k := 7) (f := 2) (k2 := 42) kx_46_1 kp_46_21 (tk_7 hT) kf_5_2 (by decide) (rq_7_2 hI) ?_
  refine s_bipush (v := 24) kx_46_4 (by decide) ?_
  refine s_iload_n kx_46_6 rfl ?_
  refine r_add kx_46_7 ⟨by omega, by omega⟩ ?_
  refine r_aldU (k := 42) kx_46_8 (tk_42 hT) ⟨by omega, by omega⟩ (fun v1 v1e => ?_)
  exact s_iret kx_46_9 (Or.inl kq_46) ⟨_, rfl, rfl, trivial⟩
theorem kx_47_0 : x_code k_P 47 0 = some (.aload_n 0, 1) := by decide +kernel
theorem kx_47_1 : x_code k_P 47 1 = some (.getfield 21, 3) := by decide +kernel
theorem kp_47_21 : x_pool k_P 47 21 = (1, 5, 2) := by decide +kernel
theorem kx_47_4 : x_code k_P 47 4 = some (.bipush 32, 2) := by decide +kernel
theorem kx_47_6 : x_code k_P 47 6 = some (.iload_n 1, 1) := by decide +kernel
theorem kx_47_7 : x_code k_P 47 7 = some (.iadd, 1) := by decide +kernel
theorem kx_47_8 : x_code k_P 47 8 = some (.iaload, 1) := by decide +kernel
theorem kx_47_9 : x_code k_P 47 9 = some (.ireturn, 1) := by decide +kernel
theorem kq_47 : x_retk k_P 47 = 1 := by decide +kernel
theorem m_47 {xs : Nat → Int} {Ln d : Nat} {T : List cK} {M : cM} (hT : TT T) (hI : Rng M) {person : Int} (p0 : 0 ≤ person ∧ person ≤ 7) : cC k_P xs Ln (d + 0) 47 [rf 7, (0, person)] (T, M) (qF T M 0 (fun v => True)) := by
  show cP k_P xs Ln (d + 0) 47 0 [(0, rf 7), (1, (0, person))] [] (T, M) _
  refine s_aload_n kx_47_0 rfl ?_
  refine r_getR (k := 7) (f := 2) (k2 := 42) kx_47_1 kp_47_21 (tk_7 hT) kf_5_2 (by decide) (rq_7_2 hI) ?_
  refine s_bipush (v := 32) kx_47_4 (by decide) ?_
  refine s_iload_n kx_47_6 rfl ?_
  refine r_add kx_47_7 ⟨by omega, by omega⟩ ?_
  refine r_aldU (k := 42) kx_47_8 (tk_42 hT) ⟨by omega, by omega⟩ (fun v1 v1e => ?_)
  exact s_iret kx_47_9 (Or.inl kq_47) ⟨_, rfl, rfl, trivial⟩
theorem kx_48_0 : x_code k_P 48 0 = some (.aload_n 0, 1) := by decide +kernel
theorem kx_48_1 : x_code k_P 48 1 = some (.getfield 21, 3) := by decide +kernel
theorem kp_48_21 : x_pool k_P 48 21 = (1, 5, 2) := by decide +kernel
theorem kx_48_4 : x_code k_P 48 4 = some (.bipush 40, 2) := by decide +kernel
theorem kx_48_6 : x_code k_P 48 6 = some (.iaload, 1) := by decide +kernel
theorem kx_48_7 : x_code k_P 48 7 = some (.ireturn, 1) := by decide +kernel
theorem kq_48 : x_retk k_P 48 = 1 := by decide +kernel
theorem m_48 {xs : Nat → Int} {Ln d : Nat} {T : List cK} {M : cM} (hT : TT T) (hI : Rng M) : cC k_P xs Ln (d + 0) 48 [rf 7] (T, M) (qF T M 0 (fun v => 0 ≤ v ∧ v ≤ 40)) := by
  show cP k_P xs Ln (d + 0) 48 0 [(0, rf 7)] [] (T, M) _
  refine s_aload_n kx_48_0 rfl ?_
  refine r_getR (k := 7) (f := 2) (k2 := 42) kx_48_1 kp_48_21 (tk_7 hT) kf_5_2 (by decide) (rq_7_2 hI) ?_
  refine s_bipush (v := 40) kx_48_4 (by decide) ?_
  refine r_ald (k := 42) kx_48_6 (tk_42 hT) ⟨by decide, by decide⟩ (rgA40 hI) (fun v1 v1e v1a v1b => ?_)
  exact s_iret kx_48_7 (Or.inl kq_48) ⟨_, rfl, rfl, (by omega)⟩
theorem kx_59_0 : x_code k_P 59 0 = some (.aload_n 0, 1) := by decide +kernel
theorem kx_59_1 : x_code k_P 59 1 = some (.getfield 14, 3) := by decide +kernel
theorem kp_59_14 : x_pool k_P 59 14 = (1, 5, 0) := by decide +kernel
theorem kf_5_0 : (x_cls k_P 5)[0]? = some 2 := by decide +kernel
theorem kx_59_4 : x_code k_P 59 4 = some (.getfield 94, 3) := by decide +kernel
theorem kp_59_94 : x_pool k_P 59 94 = (1, 9, 12) := by decide +kernel
theorem kx_59_7 : x_code k_P 59 7 = some (.iload_n 1, 1) := by decide +kernel
theorem kx_59_8 : x_code k_P 59 8 = some (.iaload, 1) := by decide +kernel
theorem kx_59_9 : x_code k_P 59 9 = some (.istore 4, 2) := by decide +kernel
theorem km_59_4 : 4 < x_maxL k_P 59 := by decide +kernel
theorem kx_59_11 : x_code k_P 59 11 = some (.iload_n 3, 1) := by decide +kernel
theorem kx_59_12 : x_code k_P 59 12 = some (.iload_n 2, 1) := by decide +kernel
theorem kx_59_13 : x_code k_P 59 13 = some (.if_icmp .ne 37, 3) := by decide +kernel
theorem kx_59_50 : x_code k_P 59 50 = some (.iconst 0, 1) := by decide +kernel
theorem kx_59_51 : x_code k_P 59 51 = some (.ireturn, 1) := by decide +kernel
theorem kq_59 : x_retk k_P 59 = 2 := by decide +kernel
theorem kx_59_16 : x_code k_P 59 16 = some (.aload_n 0, 1) := by decide +kernel
theorem kx_59_17 : x_code k_P 59 17 = some (.iload_n 1, 1) := by decide +kernel
theorem kx_59_18 : x_code k_P 59 18 = some (.invokevirtual 47, 3) := by decide +kernel
theorem kp_59_47 : x_pool k_P 59 47 = (2, 45, 1) := by decide +kernel
theorem ki_45 : x_mci k_P 45 = 5 := by decide +kernel
theorem kcl_45 : x_maxL k_P 45 ≤ 60 ∧ 2 ≤ x_maxL k_P 45 := by decide +kernel
theorem kx_59_21 : x_code k_P 59 21 = some (.ifCond .ne 29, 3) := by decide +kernel
theorem kx_59_24 : x_code k_P 59 24 = some (.aload_n 0, 1) := by decide +kernel
theorem kx_59_25 : x_code k_P 59 25 = some (.getfield 14, 3) := by decide +kernel
theorem kx_59_28 : x_code k_P 59 28 = some (.iload 4, 2) := by decide +kernel
theorem kx_59_30 : x_code k_P 59 30 = some (.invokevirtual 75, 3) := by decide +kernel
theorem kp_59_75 : x_pool k_P 59 75 = (2, 107, 1) := by decide +kernel
theorem kx_59_33 : x_code k_P 59 33 = some (.ifCond .eq 13, 3) := by decide +kernel
theorem kx_59_46 : x_code k_P 59 46 = some (.iconst 1, 1) := by decide +kernel
theorem kx_59_47 : x_code k_P 59 47 = some (.goto 4, 3) := by decide +kernel
theorem kx_59_36 : x_code k_P 59 36 = some (.aload_n 0, 1) := by decide +kernel
theorem kx_59_37 : x_code k_P 59 37 = some (.iload 4, 2) := by decide +kernel
theorem kx_59_39 : x_code k_P 59 39 = some (.invokevirtual 66, 3) := by decide +kernel
theorem kp_59_66 : x_pool k_P 59 66 = (2, 44, 1) := by decide +kernel
theorem ki_44 : x_mci k_P 44 = 5 := by decide +kernel
theorem kcl_44 : x_maxL k_P 44 ≤ 60 ∧ 2 ≤ x_maxL k_P 44 := by decide +kernel
theorem kx_59_42 : x_code k_P 59 42 = some (.iload_n 2, 1) := by decide +kernel
theorem kx_59_43 : x_code k_P 59 43 = some (.if_icmp .ne 7, 3) := by decide +kernel
theorem m_59 {xs : Nat → Int} {Ln d : Nat} {T : List cK} {M : cM} (hT : TT T) (hI : Rng M) {t : Nat} (ht : t = 8 ∨ t = 25) (h70 : M 7 0 = ((t : Nat) : Int)) {person room own : Int} (p0 : 0 ≤ person ∧ person ≤ 7) : cC k_P xs Ln (d + 1) 59 [rf 7, (0, person), (0, room), (0, own)] (T, M) (qF T M 0 (fun v => 0 ≤ v ∧ v ≤ 1)) := by
  show cP k_P xs Ln (d + 1) 59 0 [(0, rf 7), (1, (0, person)), (2, (0, room)), (3, (0, own))] [] (T, M) _
  refine s_aload_n kx_59_0 rfl ?_
  refine r_getR (k := 7) (f := 0) (k2 := t) kx_59_1 kp_59_14 (tk_7 hT) kf_5_0 (by decide) h70 ?_
  refine r_getR (k := t) (f := 12) (k2 := (t + 9)) kx_59_4 kp_59_94 (tkt_0 hT ht) kf_9_12 (by decide) (rqt_12 hI ht) ?_
  refine s_iload_n kx_59_7 rfl ?_
  refine r_aldU (k := (t + 9)) kx_59_8 (tkt_9 hT ht) ⟨by omega, by omega⟩ (fun v1 v1e => ?_)
  refine s_istore kx_59_9 km_59_4 rfl ?_
  refine s_iload_n kx_59_11 rfl ?_
  refine s_iload_n kx_59_12 rfl ?_
  refine s_icmp_ne (t := 50) kx_59_13 (by decide) (fun hc2 => ?_) (fun hc2 => ?_)
  · refine s_iconst (v := 0) kx_59_50 (by decide) ?_
    exact s_iret kx_59_51 (Or.inr ⟨kq_59, by omega⟩) ⟨_, rfl, rfl, (by omega)⟩
  · refine s_aload_n kx_59_16 rfl ?_
    refine s_iload_n kx_59_17 rfl ?_
    refine s_callV2 (k := 7) (s1 := 2) (s2 := 0) (as := [(0, person)]) (rest := []) kx_59_18 kp_59_47 (Or.inl rfl) rfl (tk_7 hT) ki_45 kcl_45 rfl rfl (by decide) (m_45 (d := d) (chair := person) hT hI (by omega)) (kF (fun v3 v3p => ?_))
    refine s_if_ne (t := 50) kx_59_21 (by decide) (fun hc4 => ?_) (fun hc4 => ?_)
    · refine s_iconst (v := 0) kx_59_50 (by decide) ?_
      exact s_iret kx_59_51 (Or.inr ⟨kq_59, by omega⟩) ⟨_, rfl, rfl, (by omega)⟩
    · refine s_aload_n kx_59_24 rfl ?_
      refine r_getR (k := 7) (f := 0) (k2 := t) kx_59_25 kp_59_14 (tk_7 hT) kf_5_0 (by decide) h70 ?_
      refine s_iload kx_59_28 rfl ?_
      refine s_callV2 (k := t) (s1 := 2) (s2 := 0) (as := [(0, v1)]) (rest := []) kx_59_30 kp_59_75 (Or.inl rfl) rfl (tkt_0 hT ht) ki_107 kcl_107 rfl rfl (by decide) (m_107 (d := d) (person := v1) hT hI ht) (kF (fun v5 v5p => ?_))
      refine s_if_eq (t := 46) kx_59_33 (by decide) (fun hc6 => ?_) (fun hc6 => ?_)
      · replace v5p := v5p.resolve_left (by omega)
        refine s_iconst (v := 1) kx_59_46 (by decide) ?_
        refine s_goto (t := 51) kx_59_47 (by decide) ?_
        exact s_iret kx_59_51 (Or.inr ⟨kq_59, by omega⟩) ⟨_, rfl, rfl, (by omega)⟩
      · replace v5p := v5p.resolve_right (by omega)
        refine s_aload_n kx_59_36 rfl ?_
        refine s_iload kx_59_37 rfl ?_
        refine s_callV2 (k := 7) (s1 := 2) (s2 := 0) (as := [(0, v1)]) (rest := []) kx_59_39 kp_59_66 (Or.inl rfl) rfl (tk_7 hT) ki_44 kcl_44 rfl rfl (by decide) (m_44 (d := d) (chair := v1) hT hI (by omega)) (kF (fun v7 v7p => ?_))
        refine s_iload_n kx_59_42 rfl ?_
        refine s_icmp_ne (t := 50) kx_59_43 (by decide) (fun hc8 => ?_) (fun hc8 => ?_)
        · refine s_iconst (v := 0) kx_59_50 (by decide) ?_
          exact s_iret kx_59_51 (Or.inr ⟨kq_59, by omega⟩) ⟨_, rfl, rfl, (by omega)⟩
        · refine s_iconst (v := 1) kx_59_46 (by decide) ?_
          refine s_goto (t := 51) kx_59_47 (by decide) ?_
          exact s_iret kx_59_51 (Or.inr ⟨kq_59, by omega⟩) ⟨_, rfl, rfl, (by omega)⟩
theorem kx_58_0 : x_code k_P 58 0 = some (.aload_n 0, 1) := by decide +kernel
theorem kx_58_1 : x_code k_P 58 1 = some (.iload_n 1, 1) := by decide +kernel
theorem kx_58_2 : x_code k_P 58 2 = some (.aload_n 0, 1) := by decide +kernel
theorem kx_58_3 : x_code k_P 58 3 = some (.iload_n 1, 1) := by decide +kernel
theorem kx_58_4 : x_code k_P 58 4 = some (.invokevirtual 63, 3) := by decide +kernel
theorem kp_58_63 : x_pool k_P 58 63 = (2, 43, 1) := by decide +kernel
theorem ki_43 : x_mci k_P 43 = 5 := by decide +kernel
theorem kcl_43 : x_maxL k_P 43 ≤ 60 ∧ 2 ≤ x_maxL k_P 43 := by decide +kernel
theorem kx_58_7 : x_code k_P 58 7 = some (.aload_n 0, 1) := by decide +kernel
theorem kx_58_8 : x_code k_P 58 8 = some (.iload_n 1, 1) := by decide +kernel
theorem kx_58_9 : x_code k_P 58 9 = some (.invokevirtual 66, 3) := by decide +kernel
theorem kp_58_66 : x_pool k_P 58 66 = (2, 44, 1) := by decide +kernel
theorem kx_58_12 : x_code k_P 58 12 = some (.invokevirtual 90, 3) := by decide +kernel
theorem kp_58_90 : x_pool k_P 58 90 = (2, 59, 3) := by decide +kernel
theorem ki_59 : x_mci k_P 59 = 5 := by decide +kernel
theorem kcl_59 : x_maxL k_P 59 ≤ 60 ∧ 4 ≤ x_maxL k_P 59 := by decide +kernel
theorem kx_58_15 : x_code k_P 58 15 = some (.ireturn, 1) := by decide +kernel
theorem kq_58 : x_retk k_P 58 = 2 := by decide +kernel
theorem m_58 {xs : Nat → Int} {Ln d : Nat} {T : List cK} {M : cM} (hT : TT T) (hI : Rng M) {t : Nat} (ht : t = 8 ∨ t = 25) (h70 : M 7 0 = ((t : Nat) : Int)) {person : Int} (p0 : 0 ≤ person ∧ person ≤ 7) : cC k_P xs Ln (d + 2) 58 [rf 7, (0, person)] (T, M) (qF T M 0 (fun v => 0 ≤ v ∧ v ≤ 1)) := by
  show cP k_P xs Ln (d + 2) 58 0 [(0, rf 7), (1, (0, person))] [] (T, M) _
  refine s_aload_n kx_58_0 rfl ?_
  refine s_iload_n kx_58_1 rfl ?_
  refine s_aload_n kx_58_2 rfl ?_
  refine s_iload_n kx_58_3 rfl ?_
  refine s_callV2 (k := 7) (s1 := 2) (s2 := 2) (as := [(0, person)]) (rest := [(0, person), rf 7]) kx_58_4 kp_58_63 (Or.inl rfl) rfl (tk_7 hT) ki_43 kcl_43 rfl rfl (by decide) (m_43 (d := d + 1) (person := person) hT hI (by omega)) (kF (fun v1 v1p => ?_))
  refine s_aload_n kx_58_7 rfl ?_
  refine s_iload_n kx_58_8 rfl ?_
  refine s_callV2 (k := 7) (s1 := 2) (s2 := 3) (as := [(0, person)]) (rest := [(0, v1), (0, person), rf 7]) kx_58_9 kp_58_66 (Or.inl rfl) rfl (tk_7 hT) ki_44 kcl_44 rfl rfl (by decide) (m_44 (d := d + 1) (chair := person) hT hI (by omega)) (kF (fun v2 v2p => ?_))
  refine s_callV2 (k := 7) (s1 := 4) (s2 := 0) (as := [(0, v2), (0, v1), (0, person)]) (rest := []) kx_58_12 kp_58_90 (Or.inl rfl) rfl (tk_7 hT) ki_59 kcl_59 rfl rfl (by decide) (m_59 (d := d) (person := person) (room := v1) (own := v2) hT hI ht h70 (by omega)) (kF (fun v3 v3p => ?_))
  exact s_iret kx_58_15 (Or.inr ⟨kq_58, by omega⟩) ⟨_, rfl, rfl, (by omega)⟩
theorem kx_49_0 : x_code k_P 49 0 = some (.iconst 0, 1) := by decide +kernel
theorem kx_49_1 : x_code k_P 49 1 = some (.istore_n 1, 1) := by decide +kernel
theorem km_49_1 : 1 < x_maxL k_P 49 := by decide +kernel
theorem kx_49_2 : x_code k_P 49 2 = some (.iconst 0, 1) := by decide +kernel
theorem kx_49_3 : x_code k_P 49 3 = some (.istore_n 2, 1) := by decide +kernel
theorem km_49_2 : 2 < x_maxL k_P 49 := by decide +kernel
theorem kx_49_4 : x_code k_P 49 4 = some (.iload_n 2, 1) := by decide +kernel
theorem kx_49_5 : x_code k_P 49 5 = some (.aload_n 0, 1) := by decide +kernel
theorem kx_49_6 : x_code k_P 49 6 = some (.getfield 14, 3) := by decide +kernel
theorem kp_49_14 : x_pool k_P 49 14 = (1, 5, 0) := by decide +kernel
theorem kx_49_9 : x_code k_P 49 9 = some (.getfield 36, 3) := by decide +kernel
theorem kp_49_36 : x_pool k_P 49 36 = (1, 9, 1) := by decide +kernel
theorem kx_49_12 : x_code k_P 49 12 = some (.if_icmp .ge 25, 3) := by decide +kernel
theorem kx_49_37 : x_code k_P 49 37 = some (.iload_n 1, 1) := by decide +kernel
theorem kx_49_38 : x_code k_P 49 38 = some (.ireturn, 1) := by decide +kernel
theorem kq_49 : x_retk k_P 49 = 1 := by decide +kernel
theorem kx_49_15 : x_code k_P 49 15 = some (.iload_n 1, 1) := by decide +kernel
theorem kx_49_16 : x_code k_P 49 16 = some (.aload_n 0, 1) := by decide +kernel
theorem kx_49_17 : x_code k_P 49 17 = some (.iload_n 2, 1) := by decide +kernel
theorem kx_49_18 : x_code k_P 49 18 = some (.invokevirtual 43, 3) := by decide +kernel
theorem kp_49_43 : x_pool k_P 49 43 = (2, 58, 1) := by decide +kernel
theorem ki_58 : x_mci k_P 58 = 5 := by decide +kernel
theorem kcl_58 : x_maxL k_P 58 ≤ 60 ∧ 2 ≤ x_maxL k_P 58 := by decide +kernel
theorem kx_49_21 : x_code k_P 49 21 = some (.ifCond .eq 7, 3) := by decide +kernel
theorem kx_49_28 : x_code k_P 49 28 = some (.iconst 0, 1) := by decide +kernel
theorem kx_49_29 : x_code k_P 49 29 = some (.iadd, 1) := by decide +kernel
theorem kx_49_30 : x_code k_P 49 30 = some (.istore_n 1, 1) := by decide +kernel
theorem kx_49_31 : x_code k_P 49 31 = some (.iinc 2 1, 3) := by decide +kernel
theorem kx_49_34 : x_code k_P 49 34 = some (.goto (-30), 3) := by decide +kernel
theorem kx_49_24 : x_code k_P 49 24 = some (.iconst 1, 1) := by decide +kernel
theorem kx_49_25 : x_code k_P 49 25 = some (.goto 4, 3) := by decide +kernel
theorem m_49 {xs : Nat → Int} {Ln d : Nat} {T : List cK} {M : cM} (hT : TT T) (hI : Rng M) {t : Nat} (ht : t = 8 ∨ t = 25) (h70 : M 7 0 = ((t : Nat) : Int)) : cC k_P xs Ln (d + 3) 49 [rf 7] (T, M) (qF T M 0 (fun v => True)) := by
  show cP k_P xs Ln (d + 3) 49 0 [(0, rf 7)] [] (T, M) _
  refine s_iconst (v := 0) kx_49_0 (by decide) ?_
  refine s_istore_n kx_49_1 km_49_1 rfl ?_
  refine s_iconst (v := 0) kx_49_2 (by decide) ?_
  refine s_istore_n kx_49_3 km_49_2 rfl ?_
  have key3 : ∀ n4 : Nat, ∀ (x1_1 x2_2 : Int), (0 ≤ x2_2) → (2147483647 - x2_2).toNat < n4 → cP k_P xs Ln (d + 3) 49 4 [(0, rf 7), (1, (0, x1_1)), (2, (0, x2_2))] [] (T, M) (qF T M 0 (fun v => True)) := by
    intro n4
    induction n4 with
    | zero => intro x1_1 x2_2 i5 hm6; exact absurd hm6 (Nat.not_lt_zero _)
    | succ n4 ih7 =>
      intro x1_1 x2_2 i5 hm6
      refine s_iload_n kx_49_4 rfl ?_
      refine s_aload_n kx_49_5 rfl ?_
      refine r_getR (k := 7) (f := 0) (k2 := t) kx_49_6 kp_49_14 (tk_7 hT) kf_5_0 (by decide) h70 ?_
      refine r_getI (k := t) (f := 1) kx_49_9 kp_49_36 (tkt_0 hT ht) kf_9_1 (fun _ => rfl) (rgt_0_1 hI ht) (fun v8 v8e v8a v8b => ?_)
      refine s_icmp_ge (t := 37) kx_49_12 (by decide) (fun hc9 => ?_) (fun hc9 => ?_)
      · refine s_iload_n kx_49_37 rfl ?_
        exact s_iret kx_49_38 (Or.inl kq_49) ⟨_, rfl, rfl, trivial⟩
      · refine s_iload_n kx_49_15 rfl ?_
        refine s_aload_n kx_49_16 rfl ?_
        refine s_iload_n kx_49_17 rfl ?_
        refine s_callV2 (k := 7) (s1 := 2) (s2 := 1) (as := [(0, x2_2)]) (rest := [(0, x1_1)]) kx_49_18 kp_49_43 (Or.inl rfl) rfl (tk_7 hT) ki_58 kcl_58 rfl rfl (by decide) (m_58 (d := d) (person := x2_2) hT hI ht h70 (by omega)) (kF (fun v10 v10p => ?_))
        refine s_if_eq (t := 28) kx_49_21 (by decide) (fun hc11 => ?_) (fun hc11 => ?_)
        · refine s_iconst (v := 0) kx_49_28 (by decide) ?_
          refine r_iaddR kx_49_29 (fun v12 v12a v12b => ?_)
          refine s_istore_n kx_49_30 km_49_1 rfl ?_
          refine r_iinc kx_49_31 rfl km_49_2 (by decide) ⟨by omega, by omega⟩ rfl ?_
          refine s_goto (t := 4) kx_49_34 (by decide) ?_
          exact cP.wk (lS1 rfl (lS1 rfl (lS1 rfl lS0))) (ih7 v12 (x2_2 + 1) (by omega) (by omega))
        · refine s_iconst (v := 1) kx_49_24 (by decide) ?_
          refine s_goto (t := 29) kx_49_25 (by decide) ?_
          refine r_iaddR kx_49_29 (fun v13 v13a v13b => ?_)
          refine s_istore_n kx_49_30 km_49_1 rfl ?_
          refine r_iinc kx_49_31 rfl km_49_2 (by decide) ⟨by omega, by omega⟩ rfl ?_
          refine s_goto (t := 4) kx_49_34 (by decide) ?_
          exact cP.wk (lS1 rfl (lS1 rfl (lS1 rfl lS0))) (ih7 v13 (x2_2 + 1) (by omega) (by omega))
  exact cP.wk (lS1 rfl (lS1 rfl (lS1 rfl lS0))) (key3 _ 0 0 (by omega) (Nat.lt_succ_self _))
theorem kx_50_0 : x_code k_P 50 0 = some (.iconst 0, 1) := by decide +kernel
theorem kx_50_1 : x_code k_P 50 1 = some (.istore_n 1, 1) := by decide +kernel
theorem km_50_1 : 1 < x_maxL k_P 50 := by decide +kernel
theorem kx_50_2 : x_code k_P 50 2 = some (.iconst 0, 1) := by decide +kernel
theorem kx_50_3 : x_code k_P 50 3 = some (.istore_n 2, 1) := by decide +kernel
theorem km_50_2 : 2 < x_maxL k_P 50 := by decide +kernel
theorem kx_50_4 : x_code k_P 50 4 = some (.iload_n 2, 1) := by decide +kernel
theorem kx_50_5 : x_code k_P 50 5 = some (.aload_n 0, 1) := by decide +kernel
theorem kx_50_6 : x_code k_P 50 6 = some (.getfield 14, 3) := by decide +kernel
theorem kp_50_14 : x_pool k_P 50 14 = (1, 5, 0) := by decide +kernel
theorem kx_50_9 : x_code k_P 50 9 = some (.getfield 36, 3) := by decide +kernel
theorem kp_50_36 : x_pool k_P 50 36 = (1, 9, 1) := by decide +kernel
theorem kx_50_12 : x_code k_P 50 12 = some (.if_icmp .ge 25, 3) := by decide +kernel
theorem kx_50_37 : x_code k_P 50 37 = some (.iload_n 1, 1) := by decide +kernel
theorem kx_50_38 : x_code k_P 50 38 = some (.ireturn, 1) := by decide +kernel
theorem kq_50 : x_retk k_P 50 = 1 := by decide +kernel
theorem kx_50_15 : x_code k_P 50 15 = some (.iload_n 1, 1) := by decide +kernel
theorem kx_50_16 : x_code k_P 50 16 = some (.aload_n 0, 1) := by decide +kernel
theorem kx_50_17 : x_code k_P 50 17 = some (.iload_n 2, 1) := by decide +kernel
theorem kx_50_18 : x_code k_P 50 18 = some (.invokevirtual 47, 3) := by decide +kernel
theorem kp_50_47 : x_pool k_P 50 47 = (2, 45, 1) := by decide +kernel
theorem kx_50_21 : x_code k_P 50 21 = some (.ifCond .eq 7, 3) := by decide +kernel
theorem kx_50_28 : x_code k_P 50 28 = some (.iconst 0, 1) := by decide +kernel
theorem kx_50_29 : x_code k_P 50 29 = some (.iadd, 1) := by decide +kernel
theorem kx_50_30 : x_code k_P 50 30 = some (.istore_n 1, 1) := by decide +kernel
theorem kx_50_31 : x_code k_P 50 31 = some (.iinc 2 1, 3) := by decide +kernel
theorem kx_50_34 : x_code k_P 50 34 = some (.goto (-30), 3) := by decide +kernel
theorem kx_50_24 : x_code k_P 50 24 = some (.iconst 1, 1) := by decide +kernel
theorem kx_50_25 : x_code k_P 50 25 = some (.goto 4, 3) := by decide +kernel
theorem m_50 {xs : Nat → Int} {Ln d : Nat} {T : List cK} {M : cM} (hT : TT T) (hI : Rng M) {t : Nat} (ht : t = 8 ∨ t = 25) (h70 : M 7 0 = ((t : Nat) : Int)) : cC k_P xs Ln (d + 1) 50 [rf 7] (T, M) (qF T M 0 (fun v => True)) := by
  show cP k_P xs Ln (d + 1) 50 0 [(0, rf 7)] [] (T, M) _
  refine s_iconst (v := 0) kx_50_0 (by decide) ?_
  refine s_istore_n kx_50_1 km_50_1 rfl ?_
  refine s_iconst (v := 0) kx_50_2 (by decide) ?_
  refine s_istore_n kx_50_3 km_50_2 rfl ?_
  have key3 : ∀ n4 : Nat, ∀ (x1_1 x2_2 : Int), (0 ≤ x2_2) → (2147483647 - x2_2).toNat < n4 → cP k_P xs Ln (d + 1) 50 4 [(0, rf 7), (1, (0, x1_1)), (2, (0, x2_2))] [] (T, M) (qF T M 0 (fun v => True)) := by
    intro n4
    induction n4 with
    | zero => intro x1_1 x2_2 i5 hm6; exact absurd hm6 (Nat.not_lt_zero _)
    | succ n4 ih7 =>
      intro x1_1 x2_2 i5 hm6
      refine s_iload_n kx_50_4 rfl ?_
      refine s_aload_n kx_50_5 rfl ?_
      refine r_getR (k := 7) (f := 0) (k2 := t) kx_50_6 kp_50_14 (tk_7 hT) kf_5_0 (by decide) h70 ?_
      refine r_getI (k := t) (f := 1) kx_50_9 kp_50_36 (tkt_0 hT ht) kf_9_1 (fun _ => rfl) (rgt_0_1 hI ht) (fun v8 v8e v8a v8b => ?_)
      refine s_icmp_ge (t := 37) kx_50_12 (by decide) (fun hc9 => ?_) (fun hc9 => ?_)
      · refine s_iload_n kx_50_37 rfl ?_
        exact s_iret kx_50_38 (Or.inl kq_50) ⟨_, rfl, rfl, trivial⟩
      · refine s_iload_n kx_50_15 rfl ?_
        refine s_aload_n kx_50_16 rfl ?_
        refine s_iload_n kx_50_17 rfl ?_
        refine s_callV2 (k := 7) (s1 := 2) (s2 := 1) (as := [(0, x2_2)]) (rest := [(0, x1_1)]) kx_50_18 kp_50_47 (Or.inl rfl) rfl (tk_7 hT) ki_45 kcl_45 rfl rfl (by decide) (m_45 (d := d) (chair := x2_2) hT hI (by omega)) (kF (fun v10 v10p => ?_))
        refine s_if_eq (t := 28) kx_50_21 (by decide) (fun hc11 => ?_) (fun hc11 => ?_)
        · refine s_iconst (v := 0) kx_50_28 (by decide) ?_
          refine r_iaddR kx_50_29 (fun v12 v12a v12b => ?_)
          refine s_istore_n kx_50_30 km_50_1 rfl ?_
          refine r_iinc kx_50_31 rfl km_50_2 (by decide) ⟨by omega, by omega⟩ rfl ?_
          refine s_goto (t := 4) kx_50_34 (by decide) ?_
          exact cP.wk (lS1 rfl (lS1 rfl (lS1 rfl lS0))) (ih7 v12 (x2_2 + 1) (by omega) (by omega))
        · refine s_iconst (v := 1) kx_50_24 (by decide) ?_
          refine s_goto (t := 29) kx_50_25 (by decide) ?_
          refine r_iaddR kx_50_29 (fun v13 v13a v13b => ?_)
          refine s_istore_n kx_50_30 km_50_1 rfl ?_
          refine r_iinc kx_50_31 rfl km_50_2 (by decide) ⟨by omega, by omega⟩ rfl ?_
          refine s_goto (t := 4) kx_50_34 (by decide) ?_
          exact cP.wk (lS1 rfl (lS1 rfl (lS1 rfl lS0))) (ih7 v13 (x2_2 + 1) (by omega) (by omega))
  exact cP.wk (lS1 rfl (lS1 rfl (lS1 rfl lS0))) (key3 _ 0 0 (by omega) (Nat.lt_succ_self _))
theorem kx_51_0 : x_code k_P 51 0 = some (.iconst 0, 1) := by decide +kernel
theorem kx_51_1 : x_code k_P 51 1 = some (.istore_n 1, 1) := by decide +kernel
theorem km_51_1 : 1 < x_maxL k_P 51 := by decide +kernel
theorem kx_51_2 : x_code k_P 51 2 = some (.iconst 0, 1) := by decide +kernel
theorem kx_51_3 : x_code k_P 51 3 = some (.istore_n 2, 1) := by decide +kernel
theorem km_51_2 : 2 < x_maxL k_P 51 := by decide +kernel
theorem kx_51_4 : x_code k_P 51 4 = some (.iload_n 2, 1) := by decide +kernel
theorem kx_51_5 : x_code k_P 51 5 = some (.aload_n 0, 1) := by decide +kernel
theorem kx_51_6 : x_code k_P 51 6 = some (.getfield 14, 3) := by decide +kernel
theorem kp_51_14 : x_pool k_P 51 14 = (1, 5, 0) := by decide +kernel
theorem kx_51_9 : x_code k_P 51 9 = some (.getfield 36, 3) := by decide +kernel
theorem kp_51_36 : x_pool k_P 51 36 = (1, 9, 1) := by decide +kernel
theorem kx_51_12 : x_code k_P 51 12 = some (.if_icmp .ge 19, 3) := by decide +kernel
theorem kx_51_31 : x_code k_P 51 31 = some (.iload_n 1, 1) := by decide +kernel
theorem kx_51_32 : x_code k_P 51 32 = some (.ireturn, 1) := by decide +kernel
theorem kq_51 : x_retk k_P 51 = 1 := by decide +kernel
theorem kx_51_15 : x_code k_P 51 15 = some (.iload_n 1, 1) := by decide +kernel
theorem kx_51_16 : x_code k_P 51 16 = some (.aload_n 0, 1) := by decide +kernel
theorem kx_51_17 : x_code k_P 51 17 = some (.iload_n 2, 1) := by decide +kernel
theorem kx_51_18 : x_code k_P 51 18 = some (.invokevirtual 50, 3) := by decide +kernel
theorem kp_51_50 : x_pool k_P 51 50 = (2, 46, 1) := by decide +kernel
theorem ki_46 : x_mci k_P 46 = 5 := by decide +kernel
theorem kcl_46 : x_maxL k_P 46 ≤ 60 ∧ 2 ≤ x_maxL k_P 46 := by decide +kernel
theorem kx_51_21 : x_code k_P 51 21 = some (.invokestatic 54, 3) := by decide +kernel
theorem kp_51_54 : x_pool k_P 51 54 = (6, 297, 2) := by decide +kernel
theorem kcl_297 : x_maxL k_P 297 ≤ 60 ∧ 2 ≤ x_maxL k_P 297 := by decide +kernel
theorem kx_51_24 : x_code k_P 51 24 = some (.istore_n 1, 1) := by decide +kernel
theorem kx_51_25 : x_code k_P 51 25 = some (.iinc 2 1, 3) := by decide +kernel
theorem kx_51_28 : x_code k_P 51 28 = some (.goto (-24), 3) := by decide +kernel
theorem m_51 {xs : Nat → Int} {Ln d : Nat} {T : List cK} {M : cM} (hT : TT T) (hI : Rng M) {t : Nat} (ht : t = 8 ∨ t = 25) (h70 : M 7 0 = ((t : Nat) : Int)) : cC k_P xs Ln (d + 1) 51 [rf 7] (T, M) (qF T M 0 (fun v => True)) := by
  show cP k_P xs Ln (d + 1) 51 0 [(0, rf 7)] [] (T, M) _
  refine s_iconst (v := 0) kx_51_0 (by decide) ?_
  refine s_istore_n kx_51_1 km_51_1 rfl ?_
  refine s_iconst (v := 0) kx_51_2 (by decide) ?_
  refine s_istore_n kx_51_3 km_51_2 rfl ?_
  have key3 : ∀ n4 : Nat, ∀ (x1_1 x2_2 : Int), (0 ≤ x2_2) → (2147483647 - x2_2).toNat < n4 → cP k_P xs Ln (d + 1) 51 4 [(0, rf 7), (1, (0, x1_1)), (2, (0, x2_2))] [] (T, M) (qF T M 0 (fun v => True)) := by
    intro n4
    induction n4 with
    | zero => intro x1_1 x2_2 i5 hm6; exact absurd hm6 (Nat.not_lt_zero _)
    | succ n4 ih7 =>
      intro x1_1 x2_2 i5 hm6
      refine s_iload_n kx_51_4 rfl ?_
      refine s_aload_n kx_51_5 rfl ?_
      refine r_getR (k := 7) (f := 0) (k2 := t) kx_51_6 kp_51_14 (tk_7 hT) kf_5_0 (by decide) h70 ?_
      refine r_getI (k := t) (f := 1) kx_51_9 kp_51_36 (tkt_0 hT ht) kf_9_1 (fun _ => rfl) (rgt_0_1 hI ht) (fun v8 v8e v8a v8b => ?_)
      refine s_icmp_ge (t := 31) kx_51_12 (by decide) (fun hc9 => ?_) (fun hc9 => ?_)
      · refine s_iload_n kx_51_31 rfl ?_
        exact s_iret kx_51_32 (Or.inl kq_51) ⟨_, rfl, rfl, trivial⟩
      · refine s_iload_n kx_51_15 rfl ?_
        refine s_aload_n kx_51_16 rfl ?_
        refine s_iload_n kx_51_17 rfl ?_
        refine s_callV2 (k := 7) (s1 := 2) (s2 := 1) (as := [(0, x2_2)]) (rest := [(0, x1_1)]) kx_51_18 kp_51_50 (Or.inl rfl) rfl (tk_7 hT) ki_46 kcl_46 rfl rfl (by decide) (m_46 (d := d) (person := x2_2) hT hI (by omega)) (kF (fun v10 v10p => ?_))
        refine s_callS2 (s1 := 2) (s2 := 0) (as := [(0, v10), (0, x1_1)]) (rest := []) kx_51_21 kp_51_54 rfl kcl_297 rfl rfl (by decide) (m_297 (d := d) (a := x1_1) (b := v10) hT hI) (kF (fun v11 v11p => ?_))
        refine s_istore_n kx_51_24 km_51_1 rfl ?_
        refine r_iinc kx_51_25 rfl km_51_2 (by decide) ⟨by omega, by omega⟩ rfl ?_
        refine s_goto (t := 4) kx_51_28 (by decide) ?_
        exact cP.wk (lS1 rfl (lS1 rfl (lS1 rfl lS0))) (ih7 v11 (x2_2 + 1) (by omega) (by omega))
  exact cP.wk (lS1 rfl (lS1 rfl (lS1 rfl lS0))) (key3 _ 0 0 (by omega) (Nat.lt_succ_self _))
theorem kx_52_0 : x_code k_P 52 0 = some (.iconst 0, 1) := by decide +kernel
theorem kx_52_1 : x_code k_P 52 1 = some (.istore_n 1, 1) := by decide +kernel
theorem km_52_1 : 1 < x_maxL k_P 52 := by decide +kernel
theorem kx_52_2 : x_code k_P 52 2 = some (.iconst 0, 1) := by decide +kernel
theorem kx_52_3 : x_code k_P 52 3 = some (.istore_n 2, 1) := by decide +kernel
theorem km_52_2 : 2 < x_maxL k_P 52 := by decide +kernel
theorem kx_52_4 : x_code k_P 52 4 = some (.iload_n 2, 1) := by decide +kernel
theorem kx_52_5 : x_code k_P 52 5 = some (.aload_n 0, 1) := by decide +kernel
theorem kx_52_6 : x_code k_P 52 6 = some (.getfield 14, 3) := by decide +kernel
theorem kp_52_14 : x_pool k_P 52 14 = (1, 5, 0) := by decide +kernel
theorem kx_52_9 : x_code k_P 52 9 = some (.getfield 36, 3) := by decide +kernel
theorem kp_52_36 : x_pool k_P 52 36 = (1, 9, 1) := by decide +kernel
theorem kx_52_12 : x_code k_P 52 12 = some (.if_icmp .ge 17, 3) := by decide +kernel
theorem kx_52_29 : x_code k_P 52 29 = some (.iload_n 1, 1) := by decide +kernel
theorem kx_52_30 : x_code k_P 52 30 = some (.ireturn, 1) := by decide +kernel
theorem kq_52 : x_retk k_P 52 = 1 := by decide +kernel
theorem kx_52_15 : x_code k_P 52 15 = some (.iload_n 1, 1) := by decide +kernel
theorem kx_52_16 : x_code k_P 52 16 = some (.aload_n 0, 1) := by decide +kernel
theorem kx_52_17 : x_code k_P 52 17 = some (.iload_n 2, 1) := by decide +kernel
theorem kx_52_18 : x_code k_P 52 18 = some (.invokevirtual 60, 3) := by decide +kernel
theorem kp_52_60 : x_pool k_P 52 60 = (2, 47, 1) := by decide +kernel
theorem ki_47 : x_mci k_P 47 = 5 := by decide +kernel
theorem kcl_47 : x_maxL k_P 47 ≤ 60 ∧ 2 ≤ x_maxL k_P 47 := by decide +kernel
theorem kx_52_21 : x_code k_P 52 21 = some (.iadd, 1) := by decide +kernel
theorem kx_52_22 : x_code k_P 52 22 = some (.istore_n 1, 1) := by decide +kernel
theorem kx_52_23 : x_code k_P 52 23 = some (.iinc 2 1, 3) := by decide +kernel
theorem kx_52_26 : x_code k_P 52 26 = some (.goto (-22), 3) := by decide +kernel
theorem m_52 {xs : Nat → Int} {Ln d : Nat} {T : List cK} {M : cM} (hT : TT T) (hI : Rng M) {t : Nat} (ht : t = 8 ∨ t = 25) (h70 : M 7 0 = ((t : Nat) : Int)) : cC k_P xs Ln (d + 1) 52 [rf 7] (T, M) (qF T M 0 (fun v => True)) := by
  show cP k_P xs Ln (d + 1) 52 0 [(0, rf 7)] [] (T, M) _
  refine s_iconst (v := 0) kx_52_0 (by decide) ?_
  refine s_istore_n kx_52_1 km_52_1 rfl ?_
  refine s_iconst (v := 0) kx_52_2 (by decide) ?_
  refine s_istore_n kx_52_3 km_52_2 rfl ?_
  have key3 : ∀ n4 : Nat, ∀ (x1_1 x2_2 : Int), (0 ≤ x2_2) → (2147483647 - x2_2).toNat < n4 → cP k_P xs Ln (d + 1) 52 4 [(0, rf 7), (1, (0, x1_1)), (2, (0, x2_2))] [] (T, M) (qF T M 0 (fun v => True)) := by
    intro n4
    induction n4 with
    | zero => intro x1_1 x2_2 i5 hm6; exact absurd hm6 (Nat.not_lt_zero _)
    | succ n4 ih7 =>
      intro x1_1 x2_2 i5 hm6
      refine s_iload_n kx_52_4 rfl ?_
      refine s_aload_n kx_52_5 rfl ?_
      refine r_getR (k := 7) (f := 0) (k2 := t) kx_52_6 kp_52_14 (tk_7 hT) kf_5_0 (by decide) h70 ?_
      refine r_getI (k := t) (f := 1) kx_52_9 kp_52_36 (tkt_0 hT ht) kf_9_1 (fun _ => rfl) (rgt_0_1 hI ht) (fun v8 v8e v8a v8b => ?_)
      refine s_icmp_ge (t := 29) kx_52_12 (by decide) (fun hc9 => ?_) (fun hc9 => ?_)
      · refine s_iload_n kx_52_29 rfl ?_
        exact s_iret kx_52_30 (Or.inl kq_52) ⟨_, rfl, rfl, trivial⟩
      · refine s_iload_n kx_52_15 rfl ?_
        refine s_aload_n kx_52_16 rfl ?_
        refine s_iload_n kx_52_17 rfl ?_
        refine s_callV2 (k := 7) (s1 := 2) (s2 := 1) (as := [(0, x2_2)]) (rest := [(0, x1_1)]) kx_52_18 kp_52_60 (Or.inl rfl) rfl (tk_7 hT) ki_47 kcl_47 rfl rfl (by decide) (m_47 (d := d) (person := x2_2) hT hI (by omega)) (kF (fun v10 v10p => ?_))
        refine r_iaddR kx_52_21 (fun v11 v11a v11b => ?_)
        refine s_istore_n kx_52_22 km_52_1 rfl ?_
        refine r_iinc kx_52_23 rfl km_52_2 (by decide) ⟨by omega, by omega⟩ rfl ?_
        refine s_goto (t := 4) kx_52_26 (by decide) ?_
        exact cP.wk (lS1 rfl (lS1 rfl (lS1 rfl lS0))) (ih7 v11 (x2_2 + 1) (by omega) (by omega))
  exact cP.wk (lS1 rfl (lS1 rfl (lS1 rfl lS0))) (key3 _ 0 0 (by omega) (Nat.lt_succ_self _))
theorem kx_53_0 : x_code k_P 53 0 = some (.iconst 0, 1) := by decide +kernel
theorem kx_53_1 : x_code k_P 53 1 = some (.istore_n 2, 1) := by decide +kernel
theorem km_53_2 : 2 < x_maxL k_P 53 := by decide +kernel
theorem kx_53_2 : x_code k_P 53 2 = some (.iconst 0, 1) := by decide +kernel
theorem kx_53_3 : x_code k_P 53 3 = some (.istore_n 3, 1) := by decide +kernel
theorem km_53_3 : 3 < x_maxL k_P 53 := by decide +kernel
theorem kx_53_4 : x_code k_P 53 4 = some (.iload_n 3, 1) := by decide +kernel
theorem kx_53_5 : x_code k_P 53 5 = some (.aload_n 0, 1) := by decide +kernel
theorem kx_53_6 : x_code k_P 53 6 = some (.getfield 14, 3) := by decide +kernel
theorem kp_53_14 : x_pool k_P 53 14 = (1, 5, 0) := by decide +kernel
theorem kx_53_9 : x_code k_P 53 9 = some (.getfield 36, 3) := by decide +kernel
theorem kp_53_36 : x_pool k_P 53 36 = (1, 9, 1) := by decide +kernel
theorem kx_53_12 : x_code k_P 53 12 = some (.if_icmp .ge 28, 3) := by decide +kernel
theorem kx_53_40 : x_code k_P 53 40 = some (.iload_n 2, 1) := by decide +kernel
theorem kx_53_41 : x_code k_P 53 41 = some (.ireturn, 1) := by decide +kernel
theorem kq_53 : x_retk k_P 53 = 1 := by decide +kernel
theorem kx_53_15 : x_code k_P 53 15 = some (.iload_n 2, 1) := by decide +kernel
theorem kx_53_16 : x_code k_P 53 16 = some (.aload_n 0, 1) := by decide +kernel
theorem kx_53_17 : x_code k_P 53 17 = some (.iload_n 3, 1) := by decide +kernel
theorem kx_53_18 : x_code k_P 53 18 = some (.invokevirtual 63, 3) := by decide +kernel
theorem kp_53_63 : x_pool k_P 53 63 = (2, 43, 1) := by decide +kernel
theorem kx_53_21 : x_code k_P 53 21 = some (.iload_n 1, 1) := by decide +kernel
theorem kx_53_22 : x_code k_P 53 22 = some (.if_icmp .ne 9, 3) := by decide +kernel
theorem kx_53_31 : x_code k_P 53 31 = some (.iconst 0, 1) := by decide +kernel
theorem kx_53_32 : x_code k_P 53 32 = some (.ior, 1) := by decide +kernel
theorem kx_53_33 : x_code k_P 53 33 = some (.istore_n 2, 1) := by decide +kernel
theorem kx_53_34 : x_code k_P 53 34 = some (.iinc 3 1, 3) := by decide +kernel
theorem kx_53_37 : x_code k_P 53 37 = some (.goto (-33), 3) := by decide +kernel
theorem kx_53_25 : x_code k_P 53 25 = some (.iconst 1, 1) := by decide +kernel
theorem kx_53_26 : x_code k_P 53 26 = some (.iload_n 3, 1) := by decide +kernel
theorem kx_53_27 : x_code k_P 53 27 = some (.ishl, 1) := by decide +kernel
theorem kx_53_28 : x_code k_P 53 28 = some (.goto 4, 3) := by decide +kernel
theorem m_53 {xs : Nat → Int} {Ln d : Nat} {T : List cK} {M : cM} (hT : TT T) (hI : Rng M) {t : Nat} (ht : t = 8 ∨ t = 25) (h70 : M 7 0 = ((t : Nat) : Int)) {room : Int} : cC k_P xs Ln (d + 1) 53 [rf 7, (0, room)] (T, M) (qF T M 0 (fun v => True)) := by
  show cP k_P xs Ln (d + 1) 53 0 [(0, rf 7), (1, (0, room))] [] (T, M) _
  refine s_iconst (v := 0) kx_53_0 (by decide) ?_
  refine s_istore_n kx_53_1 km_53_2 rfl ?_
  refine s_iconst (v := 0) kx_53_2 (by decide) ?_
  refine s_istore_n kx_53_3 km_53_3 rfl ?_
  have key3 : ∀ n4 : Nat, ∀ (x2_1 x3_2 : Int), (0 ≤ x3_2) → (2147483647 - x3_2).toNat < n4 → cP k_P xs Ln (d + 1) 53 4 [(0, rf 7), (1, (0, room)), (2, (0, x2_1)), (3, (0, x3_2))] [] (T, M) (qF T M 0 (fun v => True)) := by
    intro n4
    induction n4 with
    | zero => intro x2_1 x3_2 i5 hm6; exact absurd hm6 (Nat.not_lt_zero _)
    | succ n4 ih7 =>
      intro x2_1 x3_2 i5 hm6
      refine s_iload_n kx_53_4 rfl ?_
      refine s_aload_n kx_53_5 rfl ?_
      refine r_getR (k := 7) (f := 0) (k2 := t) kx_53_6 kp_53_14 (tk_7 hT) kf_5_0 (by decide) h70 ?_
      refine r_getI (k := t) (f := 1) kx_53_9 kp_53_36 (tkt_0 hT ht) kf_9_1 (fun _ => rfl) (rgt_0_1 hI ht) (fun v8 v8e v8a v8b => ?_)
      refine s_icmp_ge (t := 40) kx_53_12 (by decide) (fun hc9 => ?_) (fun hc9 => ?_)
      · refine s_iload_n kx_53_40 rfl ?_
        exact s_iret kx_53_41 (Or.inl kq_53) ⟨_, rfl, rfl, trivial⟩
      · refine s_iload_n kx_53_15 rfl ?_
        refine s_aload_n kx_53_16 rfl ?_
        refine s_iload_n kx_53_17 rfl ?_
        refine s_callV2 (k := 7) (s1 := 2) (s2 := 1) (as := [(0, x3_2)]) (rest := [(0, x2_1)]) kx_53_18 kp_53_63 (Or.inl rfl) rfl (tk_7 hT) ki_43 kcl_43 rfl rfl (by decide) (m_43 (d := d) (person := x3_2) hT hI (by omega)) (kF (fun v10 v10p => ?_))
        refine s_iload_n kx_53_21 rfl ?_
        refine s_icmp_ne (t := 31) kx_53_22 (by decide) (fun hc11 => ?_) (fun hc11 => ?_)
        · refine s_iconst (v := 0) kx_53_31 (by decide) ?_
          refine r_iorR kx_53_32 (fun v12 v12a v12b => ?_)
          refine s_istore_n kx_53_33 km_53_2 rfl ?_
          refine r_iinc kx_53_34 rfl km_53_3 (by decide) ⟨by omega, by omega⟩ rfl ?_
          refine s_goto (t := 4) kx_53_37 (by decide) ?_
          exact cP.wk (lS1 rfl (lS1 rfl (lS1 rfl (lS1 rfl lS0)))) (ih7 v12 (x3_2 + 1) (by omega) (by omega))
        · refine s_iconst (v := 1) kx_53_25 (by decide) ?_
          refine s_iload_n kx_53_26 rfl ?_
          refine r_ishlR kx_53_27 (fun v13 v13a v13b => ?_)
          refine s_goto (t := 32) kx_53_28 (by decide) ?_
          refine r_iorR kx_53_32 (fun v14 v14a v14b => ?_)
          refine s_istore_n kx_53_33 km_53_2 rfl ?_
          refine r_iinc kx_53_34 rfl km_53_3 (by decide) ⟨by omega, by omega⟩ rfl ?_
          refine s_goto (t := 4) kx_53_37 (by decide) ?_
          exact cP.wk (lS1 rfl (lS1 rfl (lS1 rfl (lS1 rfl lS0)))) (ih7 v14 (x3_2 + 1) (by omega) (by omega))
  exact cP.wk (lS1 rfl (lS1 rfl (lS1 rfl (lS1 rfl lS0)))) (key3 _ 0 0 (by omega) (Nat.lt_succ_self _))
theorem kx_54_0 : x_code k_P 54 0 = some (.iconst 0, 1) := by decide +kernel
theorem kx_54_1 : x_code k_P 54 1 = some (.istore_n 2, 1) := by decide +kernel
theorem km_54_2 : 2 < x_maxL k_P 54 := by decide +kernel
theorem kx_54_2 : x_code k_P 54 2 = some (.iconst 0, 1) := by decide +kernel
theorem kx_54_3 : x_code k_P 54 3 = some (.istore_n 3, 1) := by decide +kernel
theorem km_54_3 : 3 < x_maxL k_P 54 := by decide +kernel
theorem kx_54_4 : x_code k_P 54 4 = some (.iload_n 3, 1) := by decide +kernel
theorem kx_54_5 : x_code k_P 54 5 = some (.aload_n 0, 1) := by decide +kernel
theorem kx_54_6 : x_code k_P 54 6 = some (.getfield 14, 3) := by decide +kernel
theorem kp_54_14 : x_pool k_P 54 14 = (1, 5, 0) := by decide +kernel
theorem kx_54_9 : x_code k_P 54 9 = some (.getfield 36, 3) := by decide +kernel
theorem kp_54_36 : x_pool k_P 54 36 = (1, 9, 1) := by decide +kernel
theorem kx_54_12 : x_code k_P 54 12 = some (.if_icmp .ge 28, 3) := by decide +kernel
theorem kx_54_40 : x_code k_P 54 40 = some (.iload_n 2, 1) := by decide +kernel
theorem kx_54_41 : x_code k_P 54 41 = some (.ireturn, 1) := by decide +kernel
theorem kq_54 : x_retk k_P 54 = 1 := by decide +kernel
theorem kx_54_15 : x_code k_P 54 15 = some (.iload_n 2, 1) := by decide +kernel
theorem kx_54_16 : x_code k_P 54 16 = some (.aload_n 0, 1) := by decide +kernel
theorem kx_54_17 : x_code k_P 54 17 = some (.iload_n 3, 1) := by decide +kernel
theorem kx_54_18 : x_code k_P 54 18 = some (.invokevirtual 66, 3) := by decide +kernel
theorem kp_54_66 : x_pool k_P 54 66 = (2, 44, 1) := by decide +kernel
theorem kx_54_21 : x_code k_P 54 21 = some (.iload_n 1, 1) := by decide +kernel
theorem kx_54_22 : x_code k_P 54 22 = some (.if_icmp .ne 9, 3) := by decide +kernel
theorem kx_54_31 : x_code k_P 54 31 = some (.iconst 0, 1) := by decide +kernel
theorem kx_54_32 : x_code k_P 54 32 = some (.ior, 1) := by decide +kernel
theorem kx_54_33 : x_code k_P 54 33 = some (.istore_n 2, 1) := by decide +kernel
theorem kx_54_34 : x_code k_P 54 34 = some (.iinc 3 1, 3) := by decide +kernel
theorem kx_54_37 : x_code k_P 54 37 = some (.goto (-33), 3) := by decide +kernel
theorem kx_54_25 : x_code k_P 54 25 = some (.iconst 1, 1) := by decide +kernel
theorem kx_54_26 : x_code k_P 54 26 = some (.iload_n 3, 1) := by decide +kernel
theorem kx_54_27 : x_code k_P 54 27 = some (.ishl, 1) := by decide +kernel
theorem kx_54_28 : x_code k_P 54 28 = some (.goto 4, 3) := by decide +kernel
theorem m_54 {xs : Nat → Int} {Ln d : Nat} {T : List cK} {M : cM} (hT : TT T) (hI : Rng M) {t : Nat} (ht : t = 8 ∨ t = 25) (h70 : M 7 0 = ((t : Nat) : Int)) {room : Int} : cC k_P xs Ln (d + 1) 54 [rf 7, (0, room)] (T, M) (qF T M 0 (fun v => True)) := by
  show cP k_P xs Ln (d + 1) 54 0 [(0, rf 7), (1, (0, room))] [] (T, M) _
  refine s_iconst (v := 0) kx_54_0 (by decide) ?_
  refine s_istore_n kx_54_1 km_54_2 rfl ?_
  refine s_iconst (v := 0) kx_54_2 (by decide) ?_
  refine s_istore_n kx_54_3 km_54_3 rfl ?_
  have key3 : ∀ n4 : Nat, ∀ (x2_1 x3_2 : Int), (0 ≤ x3_2) → (2147483647 - x3_2).toNat < n4 → cP k_P xs Ln (d + 1) 54 4 [(0, rf 7), (1, (0, room)), (2, (0, x2_1)), (3, (0, x3_2))] [] (T, M) (qF T M 0 (fun v => True)) := by
    intro n4
    induction n4 with
    | zero => intro x2_1 x3_2 i5 hm6; exact absurd hm6 (Nat.not_lt_zero _)
    | succ n4 ih7 =>
      intro x2_1 x3_2 i5 hm6
      refine s_iload_n kx_54_4 rfl ?_
      refine s_aload_n kx_54_5 rfl ?_
      refine r_getR (k := 7) (f := 0) (k2 := t) kx_54_6 kp_54_14 (tk_7 hT) kf_5_0 (by decide) h70 ?_
      refine r_getI (k := t) (f := 1) kx_54_9 kp_54_36 (tkt_0 hT ht) kf_9_1 (fun _ => rfl) (rgt_0_1 hI ht) (fun v8 v8e v8a v8b => ?_)
      refine s_icmp_ge (t := 40) kx_54_12 (by decide) (fun hc9 => ?_) (fun hc9 => ?_)
      · refine s_iload_n kx_54_40 rfl ?_
        exact s_iret kx_54_41 (Or.inl kq_54) ⟨_, rfl, rfl, trivial⟩
      · refine s_iload_n kx_54_15 rfl ?_
        refine s_aload_n kx_54_16 rfl ?_
        refine s_iload_n kx_54_17 rfl ?_
        refine s_callV2 (k := 7) (s1 := 2) (s2 := 1) (as := [(0, x3_2)]) (rest := [(0, x2_1)]) kx_54_18 kp_54_66 (Or.inl rfl) rfl (tk_7 hT) ki_44 kcl_44 rfl rfl (by decide) (m_44 (d := d) (chair := x3_2) hT hI (by omega)) (kF (fun v10 v10p => ?_))
        refine s_iload_n kx_54_21 rfl ?_
        refine s_icmp_ne (t := 31) kx_54_22 (by decide) (fun hc11 => ?_) (fun hc11 => ?_)
        · refine s_iconst (v := 0) kx_54_31 (by decide) ?_
          refine r_iorR kx_54_32 (fun v12 v12a v12b => ?_)
          refine s_istore_n kx_54_33 km_54_2 rfl ?_
          refine r_iinc kx_54_34 rfl km_54_3 (by decide) ⟨by omega, by omega⟩ rfl ?_
          refine s_goto (t := 4) kx_54_37 (by decide) ?_
          exact cP.wk (lS1 rfl (lS1 rfl (lS1 rfl (lS1 rfl lS0)))) (ih7 v12 (x3_2 + 1) (by omega) (by omega))
        · refine s_iconst (v := 1) kx_54_25 (by decide) ?_
          refine s_iload_n kx_54_26 rfl ?_
          refine r_ishlR kx_54_27 (fun v13 v13a v13b => ?_)
          refine s_goto (t := 32) kx_54_28 (by decide) ?_
          refine r_iorR kx_54_32 (fun v14 v14a v14b => ?_)
          refine s_istore_n kx_54_33 km_54_2 rfl ?_
          refine r_iinc kx_54_34 rfl km_54_3 (by decide) ⟨by omega, by omega⟩ rfl ?_
          refine s_goto (t := 4) kx_54_37 (by decide) ?_
          exact cP.wk (lS1 rfl (lS1 rfl (lS1 rfl (lS1 rfl lS0)))) (ih7 v14 (x3_2 + 1) (by omega) (by omega))
  exact cP.wk (lS1 rfl (lS1 rfl (lS1 rfl (lS1 rfl lS0)))) (key3 _ 0 0 (by omega) (Nat.lt_succ_self _))
theorem kx_55_0 : x_code k_P 55 0 = some (.iconst 0, 1) := by decide +kernel
theorem kx_55_1 : x_code k_P 55 1 = some (.istore_n 2, 1) := by decide +kernel
theorem km_55_2 : 2 < x_maxL k_P 55 := by decide +kernel
theorem kx_55_2 : x_code k_P 55 2 = some (.iconst 0, 1) := by decide +kernel
theorem kx_55_3 : x_code k_P 55 3 = some (.istore_n 3, 1) := by decide +kernel
theorem km_55_3 : 3 < x_maxL k_P 55 := by decide +kernel
theorem kx_55_4 : x_code k_P 55 4 = some (.iload_n 3, 1) := by decide +kernel
theorem kx_55_5 : x_code k_P 55 5 = some (.aload_n 0, 1) := by decide +kernel
theorem kx_55_6 : x_code k_P 55 6 = some (.getfield 14, 3) := by decide +kernel
theorem kp_55_14 : x_pool k_P 55 14 = (1, 5, 0) := by decide +kernel
theorem kx_55_9 : x_code k_P 55 9 = some (.getfield 36, 3) := by decide +kernel
theorem kp_55_36 : x_pool k_P 55 36 = (1, 9, 1) := by decide +kernel
theorem kx_55_12 : x_code k_P 55 12 = some (.if_icmp .ge 36, 3) := by decide +kernel
theorem kx_55_48 : x_code k_P 55 48 = some (.iload_n 2, 1) := by decide +kernel
theorem kx_55_49 : x_code k_P 55 49 = some (.ireturn, 1) := by decide +kernel
theorem kq_55 : x_retk k_P 55 = 1 := by decide +kernel
theorem kx_55_15 : x_code k_P 55 15 = some (.iload_n 2, 1) := by decide +kernel
theorem kx_55_16 : x_code k_P 55 16 = some (.aload_n 0, 1) := by decide +kernel
theorem kx_55_17 : x_code k_P 55 17 = some (.iload_n 3, 1) := by decide +kernel
theorem kx_55_18 : x_code k_P 55 18 = some (.invokevirtual 63, 3) := by decide +kernel
theorem kp_55_63 : x_pool k_P 55 63 = (2, 43, 1) := by decide +kernel
theorem kx_55_21 : x_code k_P 55 21 = some (.iload_n 1, 1) := by decide +kernel
theorem kx_55_22 : x_code k_P 55 22 = some (.if_icmp .ne 17, 3) := by decide +kernel
theorem kx_55_39 : x_code k_P 55 39 = some (.iconst 0, 1) := by decide +kernel
theorem kx_55_40 : x_code k_P 55 40 = some (.ior, 1) := by decide +kernel
theorem kx_55_41 : x_code k_P 55 41 = some (.istore_n 2, 1) := by decide +kernel
theorem kx_55_42 : x_code k_P 55 42 = some (.iinc 3 1, 3) := by decide +kernel
theorem kx_55_45 : x_code k_P 55 45 = some (.goto (-41), 3) := by decide +kernel
theorem kx_55_25 : x_code k_P 55 25 = some (.aload_n 0, 1) := by decide +kernel
theorem kx_55_26 : x_code k_P 55 26 = some (.iload_n 3, 1) := by decide +kernel
theorem kx_55_27 : x_code k_P 55 27 = some (.invokevirtual 43, 3) := by decide +kernel
theorem kp_55_43 : x_pool k_P 55 43 = (2, 58, 1) := by decide +kernel
theorem kx_55_30 : x_code k_P 55 30 = some (.ifCond .eq 9, 3) := by decide +kernel
theorem kx_55_33 : x_code k_P 55 33 = some (.iconst 1, 1) := by decide +kernel
theorem kx_55_34 : x_code k_P 55 34 = some (.iload_n 3, 1) := by decide +kernel
theorem kx_55_35 : x_code k_P 55 35 = some (.ishl, 1) := by decide +kernel
theorem kx_55_36 : x_code k_P 55 36 = some (.goto 4, 3) := by decide +kernel
theorem m_55 {xs : Nat → Int} {Ln d : Nat} {T : List cK} {M : cM} (hT : TT T) (hI : Rng M) {t : Nat} (ht : t = 8 ∨ t = 25) (h70 : M 7 0 = ((t : Nat) : Int)) {room : Int} : cC k_P xs Ln (d + 3) 55 [rf 7, (0, room)] (T, M) (qF T M 0 (fun v => True)) := by
  show cP k_P xs Ln (d + 3) 55 0 [(0, rf 7), (1, (0, room))] [] (T, M) _
  refine s_iconst (v := 0) kx_55_0 (by decide) ?_
  refine s_istore_n kx_55_1 km_55_2 rfl ?_
  refine s_iconst (v := 0) kx_55_2 (by decide) ?_
  refine s_istore_n kx_55_3 km_55_3 rfl ?_
  have key3 : ∀ n4 : Nat, ∀ (x2_1 x3_2 : Int), (0 ≤ x3_2) → (2147483647 - x3_2).toNat < n4 → cP k_P xs Ln (d + 3) 55 4 [(0, rf 7), (1, (0, room)), (2, (0, x2_1)), (3, (0, x3_2))] [] (T, M) (qF T M 0 (fun v => True)) := by
    intro n4
    induction n4 with
    | zero => intro x2_1 x3_2 i5 hm6; exact absurd hm6 (Nat.not_lt_zero _)
    | succ n4 ih7 =>
      intro x2_1 x3_2 i5 hm6
      refine s_iload_n kx_55_4 rfl ?_
      refine s_aload_n kx_55_5 rfl ?_
      refine r_getR (k := 7) (f := 0) (k2 := t) kx_55_6 kp_55_14 (tk_7 hT) kf_5_0 (by decide) h70 ?_
      refine r_getI (k := t) (f := 1) kx_55_9 kp_55_36 (tkt_0 hT ht) kf_9_1 (fun _ => rfl) (rgt_0_1 hI ht) (fun v8 v8e v8a v8b => ?_)
      refine s_icmp_ge (t := 48) kx_55_12 (by decide) (fun hc9 => ?_) (fun hc9 => ?_)
      · refine s_iload_n kx_55_48 rfl ?_
        exact s_iret kx_55_49 (Or.inl kq_55) ⟨_, rfl, rfl, trivial⟩
      · refine s_iload_n kx_55_15 rfl ?_
        refine s_aload_n kx_55_16 rfl ?_
        refine s_iload_n kx_55_17 rfl ?_
        refine s_callV2 (k := 7) (s1 := 2) (s2 := 1) (as := [(0, x3_2)]) (rest := [(0, x2_1)]) kx_55_18 kp_55_63 (Or.inl rfl) rfl (tk_7 hT) ki_43 kcl_43 rfl rfl (by decide) (m_43 (d := d + 2) (person := x3_2) hT hI (by omega)) (kF (fun v10 v10p => ?_))
        refine s_iload_n kx_55_21 rfl ?_
        refine s_icmp_ne (t := 39) kx_55_22 (by decide) (fun hc11 => ?_) (fun hc11 => ?_)
        · refine s_iconst (v := 0) kx_55_39 (by decide) ?_
          refine r_iorR kx_55_40 (fun v12 v12a v12b => ?_)
          refine s_istore_n kx_55_41 km_55_2 rfl ?_
          refine r_iinc kx_55_42 rfl km_55_3 (by decide) ⟨by omega, by omega⟩ rfl ?_
          refine s_goto (t := 4) kx_55_45 (by decide) ?_
          exact cP.wk (lS1 rfl (lS1 rfl (lS1 rfl (lS1 rfl lS0)))) (ih7 v12 (x3_2 + 1) (by omega) (by omega))
        · refine s_aload_n kx_55_25 rfl ?_
          refine s_iload_n kx_55_26 rfl ?_
          refine s_callV2 (k := 7) (s1 := 2) (s2 := 1) (as := [(0, x3_2)]) (rest := [(0, x2_1)]) kx_55_27 kp_55_43 (Or.inl rfl) rfl (tk_7 hT) ki_58 kcl_58 rfl rfl (by decide) (m_58 (d := d) (person := x3_2) hT hI ht h70 (by omega)) (kF (fun v13 v13p => ?_))
          refine s_if_eq (t := 39) kx_55_30 (by decide) (fun hc14 => ?_) (fun hc14 => ?_)
          · refine s_iconst (v := 0) kx_55_39 (by decide) ?_
            refine r_iorR kx_55_40 (fun v15 v15a v15b => ?_)
            refine s_istore_n kx_55_41 km_55_2 rfl ?_
            refine r_iinc kx_55_42 rfl km_55_3 (by decide) ⟨by omega, by omega⟩ rfl ?_
            refine s_goto (t := 4) kx_55_45 (by decide) ?_
            exact cP.wk (lS1 rfl (lS1 rfl (lS1 rfl (lS1 rfl lS0)))) (ih7 v15 (x3_2 + 1) (by omega) (by omega))
          · refine s_iconst (v := 1) kx_55_33 (by decide) ?_
            refine s_iload_n kx_55_34 rfl ?_
            refine r_ishlR kx_55_35 (fun v16 v16a v16b => ?_)
            refine s_goto (t := 40) kx_55_36 (by decide) ?_
            refine r_iorR kx_55_40 (fun v17 v17a v17b => ?_)
            refine s_istore_n kx_55_41 km_55_2 rfl ?_
            refine r_iinc kx_55_42 rfl km_55_3 (by decide) ⟨by omega, by omega⟩ rfl ?_
            refine s_goto (t := 4) kx_55_45 (by decide) ?_
            exact cP.wk (lS1 rfl (lS1 rfl (lS1 rfl (lS1 rfl lS0)))) (ih7 v17 (x3_2 + 1) (by omega) (by omega))
  exact cP.wk (lS1 rfl (lS1 rfl (lS1 rfl (lS1 rfl lS0)))) (key3 _ 0 0 (by omega) (Nat.lt_succ_self _))
theorem kx_56_0 : x_code k_P 56 0 = some (.iconst 0, 1) := by decide +kernel
theorem kx_56_1 : x_code k_P 56 1 = some (.istore_n 3, 1) := by decide +kernel
theorem km_56_3 : 3 < x_maxL k_P 56 := by decide +kernel
theorem kx_56_2 : x_code k_P 56 2 = some (.iconst 0, 1) := by decide +kernel
theorem kx_56_3 : x_code k_P 56 3 = some (.istore 4, 2) := by decide +kernel
theorem km_56_4 : 4 < x_maxL k_P 56 := by decide +kernel
theorem kx_56_5 : x_code k_P 56 5 = some (.iload 4, 2) := by decide +kernel
theorem kx_56_7 : x_code k_P 56 7 = some (.aload_n 0, 1) := by decide +kernel
theorem kx_56_8 : x_code k_P 56 8 = some (.getfield 14, 3) := by decide +kernel
theorem kp_56_14 : x_pool k_P 56 14 = (1, 5, 0) := by decide +kernel
theorem kx_56_11 : x_code k_P 56 11 = some (.getfield 36, 3) := by decide +kernel
theorem kp_56_36 : x_pool k_P 56 36 = (1, 9, 1) := by decide +kernel
theorem kx_56_14 : x_code k_P 56 14 = some (.if_icmp .ge 42, 3) := by decide +kernel
theorem kx_56_56 : x_code k_P 56 56 = some (.iload_n 3, 1) := by decide +kernel
theorem kx_56_57 : x_code k_P 56 57 = some (.ireturn, 1) := by decide +kernel
theorem kq_56 : x_retk k_P 56 = 1 := by decide +kernel
theorem kx_56_17 : x_code k_P 56 17 = some (.iload_n 3, 1) := by decide +kernel
theorem kx_56_18 : x_code k_P 56 18 = some (.iload 4, 2) := by decide +kernel
theorem kx_56_20 : x_code k_P 56 20 = some (.iload_n 2, 1) := by decide +kernel
theorem kx_56_21 : x_code k_P 56 21 = some (.if_icmp .eq 26, 3) := by decide +kernel
theorem kx_56_47 : x_code k_P 56 47 = some (.iconst 0, 1) := by decide +kernel
theorem kx_56_48 : x_code k_P 56 48 = some (.iadd, 1) := by decide +kernel
theorem kx_56_49 : x_code k_P 56 49 = some (.istore_n 3, 1) := by decide +kernel
theorem kx_56_50 : x_code k_P 56 50 = some (.iinc 4 1, 3) := by decide +kernel
theorem kx_56_53 : x_code k_P 56 53 = some (.goto (-48), 3) := by decide +kernel
theorem kx_56_24 : x_code k_P 56 24 = some (.aload_n 0, 1) := by decide +kernel
theorem kx_56_25 : x_code k_P 56 25 = some (.iload 4, 2) := by decide +kernel
theorem kx_56_27 : x_code k_P 56 27 = some (.invokevirtual 66, 3) := by decide +kernel
theorem kp_56_66 : x_pool k_P 56 66 = (2, 44, 1) := by decide +kernel
theorem kx_56_30 : x_code k_P 56 30 = some (.iload_n 1, 1) := by decide +kernel
theorem kx_56_31 : x_code k_P 56 31 = some (.if_icmp .ne 16, 3) := by decide +kernel
theorem kx_56_34 : x_code k_P 56 34 = some (.aload_n 0, 1) := by decide +kernel
theorem kx_56_35 : x_code k_P 56 35 = some (.getfield 14, 3) := by decide +kernel
theorem kx_56_38 : x_code k_P 56 38 = some (.getfield 69, 3) := by decide +kernel
theorem kp_56_69 : x_pool k_P 56 69 = (1, 9, 11) := by decide +kernel
theorem kx_56_41 : x_code k_P 56 41 = some (.iload 4, 2) := by decide +kernel
theorem kx_56_43 : x_code k_P 56 43 = some (.iaload, 1) := by decide +kernel
theorem kx_56_44 : x_code k_P 56 44 = some (.goto 4, 3) := by decide +kernel
theorem m_56 {xs : Nat → Int} {Ln d : Nat} {T : List cK} {M : cM} (hT : TT T) (hI : Rng M) {t : Nat} (ht : t = 8 ∨ t = 25) (h70 : M 7 0 = ((t : Nat) : Int)) {room without : Int} : cC k_P xs Ln (d + 1) 56 [rf 7, (0, room), (0, without)] (T, M) (qF T M 0 (fun v => True)) := by
  show cP k_P xs Ln (d + 1) 56 0 [(0, rf 7), (1, (0, room)), (2, (0, without))] [] (T, M) _
  refine s_iconst (v := 0) kx_56_0 (by decide) ?_
  refine s_istore_n kx_56_1 km_56_3 rfl ?_
  refine s_iconst (v := 0) kx_56_2 (by decide) ?_
  refine s_istore kx_56_3 km_56_4 rfl ?_
  have key3 : ∀ n4 : Nat, ∀ (x3_1 x4_2 : Int), (0 ≤ x4_2) → (2147483647 - x4_2).toNat < n4 → cP k_P xs Ln (d + 1) 56 5 [(0, rf 7), (1, (0, room)), (2, (0, without)), (3, (0, x3_1)), (4, (0, x4_2))] [] (T, M) (qF T M 0 (fun v => True)) := by
    intro n4
    induction n4 with
    | zero => intro x3_1 x4_2 i5 hm6; exact absurd hm6 (Nat.not_lt_zero _)
    | succ n4 ih7 =>
      intro x3_1 x4_2 i5 hm6
      refine s_iload kx_56_5 rfl ?_
      refine s_aload_n kx_56_7 rfl ?_
      refine r_getR (k := 7) (f := 0) (k2 := t) kx_56_8 kp_56_14 (tk_7 hT) kf_5_0 (by decide) h70 ?_
      refine r_getI (k := t) (f := 1) kx_56_11 kp_56_36 (tkt_0 hT ht) kf_9_1 (fun _ => rfl) (rgt_0_1 hI ht) (fun v8 v8e v8a v8b => ?_)
      refine s_icmp_ge (t := 56) kx_56_14 (by decide) (fun hc9 => ?_) (fun hc9 => ?_)
      · refine s_iload_n kx_56_56 rfl ?_
        exact s_iret kx_56_57 (Or.inl kq_56) ⟨_, rfl, rfl, trivial⟩
      · refine s_iload_n kx_56_17 rfl ?_
        refine s_iload kx_56_18 rfl ?_
        refine s_iload_n kx_56_20 rfl ?_
        refine s_icmp_eq (t := 47) kx_56_21 (by decide) (fun hc10 => ?_) (fun hc10 => ?_)
        · refine s_iconst (v := 0) kx_56_47 (by decide) ?_
          refine r_iaddR kx_56_48 (fun v11 v11a v11b => ?_)
          refine s_istore_n kx_56_49 km_56_3 rfl ?_
          refine r_iinc kx_56_50 rfl km_56_4 (by decide) ⟨by omega, by omega⟩ rfl ?_
          refine s_goto (t := 5) kx_56_53 (by decide) ?_
          exact cP.wk (lS1 rfl (lS1 rfl (lS1 rfl (lS1 rfl (lS1 rfl lS0))))) (ih7 v11 (x4_2 + 1) (by omega) (by omega))
        · refine s_aload_n kx_56_24 rfl ?_
          refine s_iload kx_56_25 rfl ?_
          refine s_callV2 (k := 7) (s1 := 2) (s2 := 1) (as := [(0, x4_2)]) (rest := [(0, x3_1)]) kx_56_27 kp_56_66 (Or.inl rfl) rfl (tk_7 hT) ki_44 kcl_44 rfl rfl (by decide) (m_44 (d := d) (chair := x4_2) hT hI (by omega)) (kF (fun v12 v12p => ?_))
          refine s_iload_n kx_56_30 rfl ?_
          refine s_icmp_ne (t := 47) kx_56_31 (by decide) (fun hc13 => ?_) (fun hc13 => ?_)
          · refine s_iconst (v := 0) kx_56_47 (by decide) ?_
            refine r_iaddR kx_56_48 (fun v14 v14a v14b => ?_)
            refine s_istore_n kx_56_49 km_56_3 rfl ?_
            refine r_iinc kx_56_50 rfl km_56_4 (by decide) ⟨by omega, by omega⟩ rfl ?_
            refine s_goto (t := 5) kx_56_53 (by decide) ?_
            exact cP.wk (lS1 rfl (lS1 rfl (lS1 rfl (lS1 rfl (lS1 rfl lS0))))) (ih7 v14 (x4_2 + 1) (by omega) (by omega))
          · refine s_aload_n kx_56_34 rfl ?_
            refine r_getR (k := 7) (f := 0) (k2 := t) kx_56_35 kp_56_14 (tk_7 hT) kf_5_0 (by decide) h70 ?_
            refine r_getR (k := t) (f := 11) (k2 := (t + 8)) kx_56_38 kp_56_69 (tkt_0 hT ht) kf_9_11 (by decide) (rqt_11 hI ht) ?_
            refine s_iload kx_56_41 rfl ?_
            refine r_aldU (k := (t + 8)) kx_56_43 (tkt_8 hT ht) ⟨by omega, by omega⟩ (fun v15 v15e => ?_)
            refine s_goto (t := 48) kx_56_44 (by decide) ?_
            refine r_iaddR kx_56_48 (fun v16 v16a v16b => ?_)
            refine s_istore_n kx_56_49 km_56_3 rfl ?_
            refine r_iinc kx_56_50 rfl km_56_4 (by decide) ⟨by omega, by omega⟩ rfl ?_
            refine s_goto (t := 5) kx_56_53 (by decide) ?_
            exact cP.wk (lS1 rfl (lS1 rfl (lS1 rfl (lS1 rfl (lS1 rfl lS0))))) (ih7 v16 (x4_2 + 1) (by omega) (by omega))
  exact cP.wk (lS1 rfl (lS1 rfl (lS1 rfl (lS1 rfl (lS1 rfl lS0))))) (key3 _ 0 0 (by omega) (Nat.lt_succ_self _))
theorem kx_57_0 : x_code k_P 57 0 = some (.aload_n 0, 1) := by decide +kernel
theorem kx_57_1 : x_code k_P 57 1 = some (.getfield 14, 3) := by decide +kernel
theorem kp_57_14 : x_pool k_P 57 14 = (1, 5, 0) := by decide +kernel
theorem kx_57_4 : x_code k_P 57 4 = some (.iload_n 1, 1) := by decide +kernel
theorem kx_57_5 : x_code k_P 57 5 = some (.invokevirtual 72, 3) := by decide +kernel
theorem kp_57_72 : x_pool k_P 57 72 = (2, 106, 1) := by decide +kernel
theorem kx_57_8 : x_code k_P 57 8 = some (.ifCond .eq 66, 3) := by decide +kernel
theorem kx_57_74 : x_code k_P 57 74 = some (.iconst 0, 1) := by decide +kernel
theorem kx_57_75 : x_code k_P 57 75 = some (.ireturn, 1) := by decide +kernel
theorem kq_57 : x_retk k_P 57 = 2 := by decide +kernel
theorem kx_57_11 : x_code k_P 57 11 = some (.aload_n 0, 1) := by decide +kernel
theorem kx_57_12 : x_code k_P 57 12 = some (.getfield 14, 3) := by decide +kernel
theorem kx_57_15 : x_code k_P 57 15 = some (.iload_n 2, 1) := by decide +kernel
theorem kx_57_16 : x_code k_P 57 16 = some (.invokevirtual 75, 3) := by decide +kernel
theorem kp_57_75 : x_pool k_P 57 75 = (2, 107, 1) := by decide +kernel
theorem kx_57_19 : x_code k_P 57 19 = some (.ifCond .eq 55, 3) := by decide +kernel
theorem kx_57_22 : x_code k_P 57 22 = some (.aload_n 0, 1) := by decide +kernel
theorem kx_57_23 : x_code k_P 57 23 = some (.getfield 14, 3) := by decide +kernel
theorem kx_57_26 : x_code k_P 57 26 = some (.iload_n 2, 1) := by decide +kernel
theorem kx_57_27 : x_code k_P 57 27 = some (.invokevirtual 78, 3) := by decide +kernel
theorem kp_57_78 : x_pool k_P 57 78 = (2, 116, 1) := by decide +kernel
theorem ki_116 : x_mci k_P 116 = 9 := by decide +kernel
theorem kcl_116 : x_maxL k_P 116 ≤ 60 ∧ 2 ≤ x_maxL k_P 116 := by decide +kernel
theorem kx_57_30 : x_code k_P 57 30 = some (.aload_n 0, 1) := by decide +kernel
theorem kx_57_31 : x_code k_P 57 31 = some (.getfield 14, 3) := by decide +kernel
theorem kx_57_34 : x_code k_P 57 34 = some (.getfield 81, 3) := by decide +kernel
theorem kp_57_81 : x_pool k_P 57 81 = (1, 9, 5) := by decide +kernel
theorem kx_57_37 : x_code k_P 57 37 = some (.iload_n 1, 1) := by decide +kernel
theorem kx_57_38 : x_code k_P 57 38 = some (.iaload, 1) := by decide +kernel
theorem kx_57_39 : x_code k_P 57 39 = some (.if_icmp .gt 35, 3) := by decide +kernel
theorem kx_57_42 : x_code k_P 57 42 = some (.aload_n 0, 1) := by decide +kernel
theorem kx_57_43 : x_code k_P 57 43 = some (.iload_n 1, 1) := by decide +kernel
theorem kx_57_44 : x_code k_P 57 44 = some (.iload_n 2, 1) := by decide +kernel
theorem kx_57_45 : x_code k_P 57 45 = some (.invokevirtual 84, 3) := by decide +kernel
theorem kp_57_84 : x_pool k_P 57 84 = (2, 56, 2) := by decide +kernel
theorem ki_56 : x_mci k_P 56 = 5 := by decide +kernel
theorem kcl_56 : x_maxL k_P 56 ≤ 60 ∧ 3 ≤ x_maxL k_P 56 := by decide +kernel
theorem kx_57_48 : x_code k_P 57 48 = some (.aload_n 0, 1) := by decide +kernel
theorem kx_57_49 : x_code k_P 57 49 = some (.getfield 14, 3) := by decide +kernel
theorem kx_57_52 : x_code k_P 57 52 = some (.getfield 69, 3) := by decide +kernel
theorem kp_57_69 : x_pool k_P 57 69 = (1, 9, 11) := by decide +kernel
theorem kx_57_55 : x_code k_P 57 55 = some (.iload_n 2, 1) := by decide +kernel
theorem kx_57_56 : x_code k_P 57 56 = some (.iaload, 1) := by decide +kernel
theorem kx_57_57 : x_code k_P 57 57 = some (.iadd, 1) := by decide +kernel
theorem kx_57_58 : x_code k_P 57 58 = some (.aload_n 0, 1) := by decide +kernel
theorem kx_57_59 : x_code k_P 57 59 = some (.getfield 14, 3) := by decide +kernel
theorem kx_57_62 : x_code k_P 57 62 = some (.getfield 87, 3) := by decide +kernel
theorem kp_57_87 : x_pool k_P 57 87 = (1, 9, 6) := by decide +kernel
theorem kx_57_65 : x_code k_P 57 65 = some (.iload_n 1, 1) := by decide +kernel
theorem kx_57_66 : x_code k_P 57 66 = some (.iaload, 1) := by decide +kernel
theorem kx_57_67 : x_code k_P 57 67 = some (.if_icmp .gt 7, 3) := by decide +kernel
theorem kx_57_70 : x_code k_P 57 70 = some (.iconst 1, 1) := by decide +kernel
theorem kx_57_71 : x_code k_P 57 71 = some (.goto 4, 3) := by decide +kernel
theorem m_57 {xs : Nat → Int} {Ln d : Nat} {T : List cK} {M : cM} (hT : TT T) (hI : Rng M) {t : Nat} (ht : t = 8 ∨ t = 25) (h70 : M 7 0 = ((t : Nat) : Int)) {room chair : Int} : cC k_P xs Ln (d + 2) 57 [rf 7, (0, room), (0, chair)] (T, M) (qF T M 0 (fun v => (v = 1 ∧ 0 ≤ room ∧ room ≤ 7 ∧ room < M t 0 ∧ 0 ≤ chair ∧ chair ≤ 7 ∧ chair < M t 1) ∨ v = 0)) := by
  show cP k_P xs Ln (d + 2) 57 0 [(0, rf 7), (1, (0, room)), (2, (0, chair))] [] (T, M) _
  refine s_aload_n kx_57_0 rfl ?_
  refine r_getR (k := 7) (f := 0) (k2 := t) kx_57_1 kp_57_14 (tk_7 hT) kf_5_0 (by decide) h70 ?_
  refine s_iload_n kx_57_4 rfl ?_
  refine s_callV2 (k := t) (s1 := 2) (s2 := 0) (as := [(0, room)]) (rest := []) kx_57_5 kp_57_72 (Or.inl rfl) rfl (tkt_0 hT ht) ki_106 kcl_106 rfl rfl (by decide) (m_106 (d := d + 1) (room := room) hT hI ht) (kF (fun v1 v1p => ?_))
  refine s_if_eq (t := 74) kx_57_8 (by decide) (fun hc2 => ?_) (fun hc2 => ?_)
  · replace v1p := v1p.resolve_left (by omega)
    refine s_iconst (v := 0) kx_57_74 (by decide) ?_
    exact s_iret kx_57_75 (Or.inr ⟨kq_57, by omega⟩) ⟨_, rfl, rfl, (by omega)⟩
  · replace v1p := v1p.resolve_right (by omega)
    refine s_aload_n kx_57_11 rfl ?_
    refine r_getR (k := 7) (f := 0) (k2 := t) kx_57_12 kp_57_14 (tk_7 hT) kf_5_0 (by decide) h70 ?_
    refine s_iload_n kx_57_15 rfl ?_
    refine s_callV2 (k := t) (s1 := 2) (s2 := 0) (as := [(0, chair)]) (rest := []) kx_57_16 kp_57_75 (Or.inl rfl) rfl (tkt_0 hT ht) ki_107 kcl_107 rfl rfl (by decide) (m_107 (d := d + 1) (person := chair) hT hI ht) (kF (fun v3 v3p => ?_))
    refine s_if_eq (t := 74) kx_57_19 (by decide) (fun hc4 => ?_) (fun hc4 => ?_)
    · replace v3p := v3p.resolve_left (by omega)
      refine s_iconst (v := 0) kx_57_74 (by decide) ?_
      exact s_iret kx_57_75 (Or.inr ⟨kq_57, by omega⟩) ⟨_, rfl, rfl, (by omega)⟩
    · replace v3p := v3p.resolve_right (by omega)
      refine s_aload_n kx_57_22 rfl ?_
      refine r_getR (k := 7) (f := 0) (k2 := t) kx_57_23 kp_57_14 (tk_7 hT) kf_5_0 (by decide) h70 ?_
      refine s_iload_n kx_57_26 rfl ?_
      refine s_callV2 (k := t) (s1 := 2) (s2 := 0) (as := [(0, chair)]) (rest := []) kx_57_27 kp_57_78 (Or.inl rfl) rfl (tkt_0 hT ht) ki_116 kcl_116 rfl rfl (by decide) (m_116 (d := d) (chair := chair) hT hI ht) (kF (fun v5 v5p => ?_))
      refine s_aload_n kx_57_30 rfl ?_
      refine r_getR (k := 7) (f := 0) (k2 := t) kx_57_31 kp_57_14 (tk_7 hT) kf_5_0 (by decide) h70 ?_
      refine r_getR (k := t) (f := 5) (k2 := (t + 2)) kx_57_34 kp_57_81 (tkt_0 hT ht) kf_9_5 (by decide) (rqt_5 hI ht) ?_
      refine s_iload_n kx_57_37 rfl ?_
      refine r_aldU (k := (t + 2)) kx_57_38 (tkt_2 hT ht) ⟨by omega, by omega⟩ (fun v6 v6e => ?_)
      refine s_icmp_gt (t := 74) kx_57_39 (by decide) (fun hc7 => ?_) (fun hc7 => ?_)
      · refine s_iconst (v := 0) kx_57_74 (by decide) ?_
        exact s_iret kx_57_75 (Or.inr ⟨kq_57, by omega⟩) ⟨_, rfl, rfl, (by omega)⟩
      · refine s_aload_n kx_57_42 rfl ?_
        refine s_iload_n kx_57_43 rfl ?_
        refine s_iload_n kx_57_44 rfl ?_
        refine s_callV2 (k := 7) (s1 := 3) (s2 := 0) (as := [(0, chair), (0, room)]) (rest := []) kx_57_45 kp_57_84 (Or.inl rfl) rfl (tk_7 hT) ki_56 kcl_56 rfl rfl (by decide) (m_56 (d := d) (room := room) (without := chair) hT hI ht h70) (kF (fun v8 v8p => ?_))
        refine s_aload_n kx_57_48 rfl ?_
        refine r_getR (k := 7) (f := 0) (k2 := t) kx_57_49 kp_57_14 (tk_7 hT) kf_5_0 (by decide) h70 ?_
        refine r_getR (k := t) (f := 11) (k2 := (t + 8)) kx_57_52 kp_57_69 (tkt_0 hT ht) kf_9_11 (by decide) (rqt_11 hI ht) ?_
        refine s_iload_n kx_57_55 rfl ?_
        refine r_aldU (k := (t + 8)) kx_57_56 (tkt_8 hT ht) ⟨by omega, by omega⟩ (fun v9 v9e => ?_)
        refine r_iaddR kx_57_57 (fun v10 v10a v10b => ?_)
        refine s_aload_n kx_57_58 rfl ?_
        refine r_getR (k := 7) (f := 0) (k2 := t) kx_57_59 kp_57_14 (tk_7 hT) kf_5_0 (by decide) h70 ?_
        refine r_getR (k := t) (f := 6) (k2 := (t + 3)) kx_57_62 kp_57_87 (tkt_0 hT ht) kf_9_6 (by decide) (rqt_6 hI ht) ?_
        refine s_iload_n kx_57_65 rfl ?_
        refine r_aldU (k := (t + 3)) kx_57_66 (tkt_3 hT ht) ⟨by omega, by omega⟩ (fun v11 v11e => ?_)
        refine s_icmp_gt (t := 74) kx_57_67 (by decide) (fun hc12 => ?_) (fun hc12 => ?_)
        · refine s_iconst (v := 0) kx_57_74 (by decide) ?_
          exact s_iret kx_57_75 (Or.inr ⟨kq_57, by omega⟩) ⟨_, rfl, rfl, (by omega)⟩
        · refine s_iconst (v := 1) kx_57_70 (by decide) ?_
          refine s_goto (t := 75) kx_57_71 (by decide) ?_
          exact s_iret kx_57_75 (Or.inr ⟨kq_57, by omega⟩) ⟨_, rfl, rfl, (by omega)⟩
theorem kx_60_0 : x_code k_P 60 0 = some (.aload_n 0, 1) := by decide +kernel
theorem kx_60_1 : x_code k_P 60 1 = some (.getfield 14, 3) := by decide +kernel
theorem kp_60_14 : x_pool k_P 60 14 = (1, 5, 0) := by decide +kernel
theorem kx_60_4 : x_code k_P 60 4 = some (.iload_n 3, 1) := by decide +kernel
theorem kx_60_5 : x_code k_P 60 5 = some (.invokevirtual 75, 3) := by decide +kernel
theorem kp_60_75 : x_pool k_P 60 75 = (2, 107, 1) := by decide +kernel
theorem kx_60_8 : x_code k_P 60 8 = some (.ifCond .eq 37, 3) := by decide +kernel
theorem kx_60_45 : x_code k_P 60 45 = some (.iconst 0, 1) := by decide +kernel
theorem kx_60_46 : x_code k_P 60 46 = some (.ireturn, 1) := by decide +kernel
theorem kq_60 : x_retk k_P 60 = 2 := by decide +kernel
theorem kx_60_11 : x_code k_P 60 11 = some (.aload_n 0, 1) := by decide +kernel
theorem kx_60_12 : x_code k_P 60 12 = some (.iload_n 3, 1) := by decide +kernel
theorem kx_60_13 : x_code k_P 60 13 = some (.invokevirtual 47, 3) := by decide +kernel
theorem kp_60_47 : x_pool k_P 60 47 = (2, 45, 1) := by decide +kernel
theorem kx_60_16 : x_code k_P 60 16 = some (.ifCond .ne 29, 3) := by decide +kernel
theorem kx_60_19 : x_code k_P 60 19 = some (.aload_n 0, 1) := by decide +kernel
theorem kx_60_20 : x_code k_P 60 20 = some (.iload_n 3, 1) := by decide +kernel
theorem kx_60_21 : x_code k_P 60 21 = some (.invokevirtual 66, 3) := by decide +kernel
theorem kp_60_66 : x_pool k_P 60 66 = (2, 44, 1) := by decide +kernel
theorem kx_60_24 : x_code k_P 60 24 = some (.aload_n 0, 1) := by decide +kernel
theorem kx_60_25 : x_code k_P 60 25 = some (.iload_n 1, 1) := by decide +kernel
theorem kx_60_26 : x_code k_P 60 26 = some (.invokevirtual 63, 3) := by decide +kernel
theorem kp_60_63 : x_pool k_P 60 63 = (2, 43, 1) := by decide +kernel
theorem kx_60_29 : x_code k_P 60 29 = some (.if_icmp .ne 16, 3) := by decide +kernel
theorem kx_60_32 : x_code k_P 60 32 = some (.aload_n 0, 1) := by decide +kernel
theorem kx_60_33 : x_code k_P 60 33 = some (.iload_n 2, 1) := by decide +kernel
theorem kx_60_34 : x_code k_P 60 34 = some (.iload_n 3, 1) := by decide +kernel
theorem kx_60_35 : x_code k_P 60 35 = some (.invokevirtual 97, 3) := by decide +kernel
theorem kp_60_97 : x_pool k_P 60 97 = (2, 57, 2) := by decide +kernel
theorem ki_57 : x_mci k_P 57 = 5 := by decide +kernel
theorem kcl_57 : x_maxL k_P 57 ≤ 60 ∧ 3 ≤ x_maxL k_P 57 := by decide +kernel
theorem kx_60_38 : x_code k_P 60 38 = some (.ifCond .eq 7, 3) := by decide +kernel
theorem kx_60_41 : x_code k_P 60 41 = some (.iconst 1, 1) := by decide +kernel
theorem kx_60_42 : x_code k_P 60 42 = some (.goto 4, 3) := by decide +kernel
theorem m_60 {xs : Nat → Int} {Ln d : Nat} {T : List cK} {M : cM} (hT : TT T) (hI : Rng M) {t : Nat} (ht : t = 8 ∨ t = 25) (h70 : M 7 0 = ((t : Nat) : Int)) {person to chair : Int} (p0 : 0 ≤ person ∧ person ≤ 7) : cC k_P xs Ln (d + 3) 60 [rf 7, (0, person), (0, to), (0, chair)] (T, M) (qF T M 0 (fun v => (v = 1 ∧ 0 ≤ to ∧ to ≤ 7 ∧ to < M t 0 ∧ 0 ≤ chair ∧ chair ≤ 7 ∧ chair < M t 1) ∨ v = 0)) := by
  show cP k_P xs Ln (d + 3) 60 0 [(0, rf 7), (1, (0, person)), (2, (0, to)), (3, (0, chair))] [] (T, M) _
  refine s_aload_n kx_60_0 rfl ?_
  refine r_getR (k := 7) (f := 0) (k2 := t) kx_60_1 kp_60_14 (tk_7 hT) kf_5_0 (by decide) h70 ?_
  refine s_iload_n kx_60_4 rfl ?_
  refine s_callV2 (k := t) (s1 := 2) (s2 := 0) (as := [(0, chair)]) (rest := []) kx_60_5 kp_60_75 (Or.inl rfl) rfl (tkt_0 hT ht) ki_107 kcl_107 rfl rfl (by decide) (m_107 (d := d + 2) (person := chair) hT hI ht) (kF (fun v1 v1p => ?_))
  refine s_if_eq (t := 45) kx_60_8 (by decide) (fun hc2 => ?_) (fun hc2 => ?_)
  · replace v1p := v1p.resolve_left (by omega)
    refine s_iconst (v := 0) kx_60_45 (by decide) ?_
    exact s_iret kx_60_46 (Or.inr ⟨kq_60, by omega⟩) ⟨_, rfl, rfl, (by omega)⟩
  · replace v1p := v1p.resolve_right (by omega)
    refine s_aload_n kx_60_11 rfl ?_
    refine s_iload_n kx_60_12 rfl ?_
    refine s_callV2 (k := 7) (s1 := 2) (s2 := 0) (as := [(0, chair)]) (rest := []) kx_60_13 kp_60_47 (Or.inl rfl) rfl (tk_7 hT) ki_45 kcl_45 rfl rfl (by decide) (m_45 (d := d + 2) (chair := chair) hT hI (by omega)) (kF (fun v3 v3p => ?_))
    refine s_if_ne (t := 45) kx_60_16 (by decide) (fun hc4 => ?_) (fun hc4 => ?_)
    · refine s_iconst (v := 0) kx_60_45 (by decide) ?_
      exact s_iret kx_60_46 (Or.inr ⟨kq_60, by omega⟩) ⟨_, rfl, rfl, (by omega)⟩
    · refine s_aload_n kx_60_19 rfl ?_
      refine s_iload_n kx_60_20 rfl ?_
      refine s_callV2 (k := 7) (s1 := 2) (s2 := 0) (as := [(0, chair)]) (rest := []) kx_60_21 kp_60_66 (Or.inl rfl) rfl (tk_7 hT) ki_44 kcl_44 rfl rfl (by decide) (m_44 (d := d + 2) (chair := chair) hT hI (by omega)) (kF (fun v5 v5p => ?_))
      refine s_aload_n kx_60_24 rfl ?_
      refine s_iload_n kx_60_25 rfl ?_
      refine s_callV2 (k := 7) (s1 := 2) (s2 := 1) (as := [(0, person)]) (rest := [(0, v5)]) kx_60_26 kp_60_63 (Or.inl rfl) rfl (tk_7 hT) ki_43 kcl_43 rfl rfl (by decide) (m_43 (d := d + 2) (person := person) hT hI (by omega)) (kF (fun v6 v6p => ?_))
      refine s_icmp_ne (t := 45) kx_60_29 (by decide) (fun hc7 => ?_) (fun hc7 => ?_)
      · refine s_iconst (v := 0) kx_60_45 (by decide) ?_
        exact s_iret kx_60_46 (Or.inr ⟨kq_60, by omega⟩) ⟨_, rfl, rfl, (by omega)⟩
      · refine s_aload_n kx_60_32 rfl ?_
        refine s_iload_n kx_60_33 rfl ?_
        refine s_iload_n kx_60_34 rfl ?_
        refine s_callV2 (k := 7) (s1 := 3) (s2 := 0) (as := [(0, chair), (0, to)]) (rest := []) kx_60_35 kp_60_97 (Or.inl rfl) rfl (tk_7 hT) ki_57 kcl_57 rfl rfl (by decide) (m_57 (d := d) (room := to) (chair := chair) hT hI ht h70) (kF (fun v8 v8p => ?_))
        refine s_if_eq (t := 45) kx_60_38 (by decide) (fun hc9 => ?_) (fun hc9 => ?_)
        · replace v8p := v8p.resolve_left (by omega)
          refine s_iconst (v := 0) kx_60_45 (by decide) ?_
          exact s_iret kx_60_46 (Or.inr ⟨kq_60, by omega⟩) ⟨_, rfl, rfl, (by omega)⟩
        · replace v8p := v8p.resolve_right (by omega)
          refine s_iconst (v := 1) kx_60_41 (by decide) ?_
          refine s_goto (t := 46) kx_60_42 (by decide) ?_
          exact s_iret kx_60_46 (Or.inr ⟨kq_60, by omega⟩) ⟨_, rfl, rfl, (by omega)⟩
theorem kx_70_0 : x_code k_P 70 0 = some (.aload_n 0, 1) := by decide +kernel
theorem kx_70_1 : x_code k_P 70 1 = some (.getfield 14, 3) := by decide +kernel
theorem kp_70_14 : x_pool k_P 70 14 = (1, 5, 0) := by decide +kernel
theorem kx_70_4 : x_code k_P 70 4 = some (.iload_n 1, 1) := by decide +kernel
theorem kx_70_5 : x_code k_P 70 5 = some (.invokevirtual 75, 3) := by decide +kernel
theorem kp_70_75 : x_pool k_P 70 75 = (2, 107, 1) := by decide +kernel
theorem kx_70_8 : x_code k_P 70 8 = some (.ifCond .eq 73, 3) := by decide +kernel
theorem kx_70_81 : x_code k_P 70 81 = some (.iconst 0, 1) := by decide +kernel
theorem kx_70_82 : x_code k_P 70 82 = some (.ireturn, 1) := by decide +kernel
theorem kq_70 : x_retk k_P 70 = 2 := by decide +kernel
theorem kx_70_11 : x_code k_P 70 11 = some (.aload_n 0, 1) := by decide +kernel
theorem kx_70_12 : x_code k_P 70 12 = some (.getfield 14, 3) := by decide +kernel
theorem kx_70_15 : x_code k_P 70 15 = some (.iload_n 2, 1) := by decide +kernel
theorem kx_70_16 : x_code k_P 70 16 = some (.invokevirtual 75, 3) := by decide +kernel
theorem kx_70_19 : x_code k_P 70 19 = some (.ifCond .eq 62, 3) := by decide +kernel
theorem kx_70_22 : x_code k_P 70 22 = some (.aload_n 0, 1) := by decide +kernel
theorem kx_70_23 : x_code k_P 70 23 = some (.getfield 14, 3) := by decide +kernel
theorem kx_70_26 : x_code k_P 70 26 = some (.aload_n 0, 1) := by decide +kernel
theorem kx_70_27 : x_code k_P 70 27 = some (.getfield 14, 3) := by decide +kernel
theorem kx_70_30 : x_code k_P 70 30 = some (.getfield 153, 3) := by decide +kernel
theorem kp_70_153 : x_pool k_P 70 153 = (1, 9, 3) := by decide +kernel
theorem kx_70_33 : x_code k_P 70 33 = some (.invokevirtual 72, 3) := by decide +kernel
theorem kp_70_72 : x_pool k_P 70 72 = (2, 106, 1) := by decide +kernel
theorem kx_70_36 : x_code k_P 70 36 = some (.ifCond .eq 45, 3) := by decide +kernel
theorem kx_70_39 : x_code k_P 70 39 = some (.aload_n 0, 1) := by decide +kernel
theorem kx_70_40 : x_code k_P 70 40 = some (.iload_n 1, 1) := by decide +kernel
theorem kx_70_41 : x_code k_P 70 41 = some (.invokevirtual 63, 3) := by decide +kernel
theorem kp_70_63 : x_pool k_P 70 63 = (2, 43, 1) := by decide +kernel
theorem kx_70_44 : x_code k_P 70 44 = some (.aload_n 0, 1) := by decide +kernel
theorem kx_70_45 : x_code k_P 70 45 = some (.getfield 14, 3) := by decide +kernel
theorem kx_70_48 : x_code k_P 70 48 = some (.getfield 153, 3) := by decide +kernel
theorem kx_70_51 : x_code k_P 70 51 = some (.if_icmp .ne 30, 3) := by decide +kernel
theorem kx_70_54 : x_code k_P 70 54 = some (.aload_n 0, 1) := by decide +kernel
theorem kx_70_55 : x_code k_P 70 55 = some (.iload_n 2, 1) := by decide +kernel
theorem kx_70_56 : x_code k_P 70 56 = some (.invokevirtual 66, 3) := by decide +kernel
theorem kp_70_66 : x_pool k_P 70 66 = (2, 44, 1) := by decide +kernel
theorem kx_70_59 : x_code k_P 70 59 = some (.aload_n 0, 1) := by decide +kernel
theorem kx_70_60 : x_code k_P 70 60 = some (.getfield 14, 3) := by decide +kernel
theorem kx_70_63 : x_code k_P 70 63 = some (.getfield 153, 3) := by decide +kernel
theorem kx_70_66 : x_code k_P 70 66 = some (.if_icmp .ne 15, 3) := by decide +kernel
theorem kx_70_69 : x_code k_P 70 69 = some (.aload_n 0, 1) := by decide +kernel
theorem kx_70_70 : x_code k_P 70 70 = some (.iload_n 2, 1) := by decide +kernel
theorem kx_70_71 : x_code k_P 70 71 = some (.invokevirtual 47, 3) := by decide +kernel
theorem kp_70_47 : x_pool k_P 70 47 = (2, 45, 1) := by decide +kernel
theorem kx_70_74 : x_code k_P 70 74 = some (.ifCond .eq 7, 3) := by decide +kernel
theorem kx_70_77 : x_code k_P 70 77 = some (.iconst 1, 1) := by decide +kernel
theorem kx_70_78 : x_code k_P 70 78 = some (.goto 4, 3) := by decide +kernel
theorem m_70 {xs : Nat → Int} {Ln d : Nat} {T : List cK} {M : cM} (hT : TT T) (hI : Rng M) {t : Nat} (ht : t = 8 ∨ t = 25) (h70 : M 7 0 = ((t : Nat) : Int)) {person chair : Int} : cC k_P xs Ln (d + 1) 70 [rf 7, (0, person), (0, chair)] (T, M) (qF T M 0 (fun v => (v = 1 ∧ 0 ≤ person ∧ person ≤ 7 ∧ 0 ≤ chair ∧ chair ≤ 7) ∨ v = 0)) := by
  show cP k_P xs Ln (d + 1) 70 0 [(0, rf 7), (1, (0, person)), (2, (0, chair))] [] (T, M) _
  refine s_aload_n kx_70_0 rfl ?_
  refine r_getR (k := 7) (f := 0) (k2 := t) kx_70_1 kp_70_14 (tk_7 hT) kf_5_0 (by decide) h70 ?_
  refine s_iload_n kx_70_4 rfl ?_
  refine s_callV2 (k := t) (s1 := 2) (s2 := 0) (as := [(0, person)]) (rest := []) kx_70_5 kp_70_75 (Or.inl rfl) rfl (tkt_0 hT ht) ki_107 kcl_107 rfl rfl (by decide) (m_107 (d := d) (person := person) hT hI ht) (kF (fun v1 v1p => ?_))
  refine s_if_eq (t := 81) kx_70_8 (by decide) (fun hc2 => ?_) (fun hc2 => ?_)
  · replace v1p := v1p.resolve_left (by omega)
    refine s_iconst (v := 0) kx_70_81 (by decide) ?_
    exact s_iret kx_70_82 (Or.inr ⟨kq_70, by omega⟩) ⟨_, rfl, rfl, (by omega)⟩
  · replace v1p := v1p.resolve_right (by omega)
    refine s_aload_n kx_70_11 rfl ?_
    refine r_getR (k := 7) (f := 0) (k2 := t) kx_70_12 kp_70_14 (tk_7 hT) kf_5_0 (by decide) h70 ?_
    refine s_iload_n kx_70_15 rfl ?_
    refine s_callV2 (k := t) (s1 := 2) (s2 := 0) (as := [(0, chair)]) (rest := []) kx_70_16 kp_70_75 (Or.inl rfl) rfl (tkt_0 hT ht) ki_107 kcl_107 rfl rfl (by decide) (m_107 (d := d) (person := chair) hT hI ht) (kF (fun v3 v3p => ?_))
    refine s_if_eq (t := 81) kx_70_19 (by decide) (fun hc4 => ?_) (fun hc4 => ?_)
    · replace v3p := v3p.resolve_left (by omega)
      refine s_iconst (v := 0) kx_70_81 (by decide) ?_
      exact s_iret kx_70_82 (Or.inr ⟨kq_70, by omega⟩) ⟨_, rfl, rfl, (by omega)⟩
    · replace v3p := v3p.resolve_right (by omega)
      refine s_aload_n kx_70_22 rfl ?_
      refine r_getR (k := 7) (f := 0) (k2 := t) kx_70_23 kp_70_14 (tk_7 hT) kf_5_0 (by decide) h70 ?_
      refine s_aload_n kx_70_26 rfl ?_
      refine r_getR (k := 7) (f := 0) (k2 := t) kx_70_27 kp_70_14 (tk_7 hT) kf_5_0 (by decide) h70 ?_
      refine r_getU (k := t) (f := 3) kx_70_30 kp_70_153 (tkt_0 hT ht) kf_9_3 (fun _ => rfl) (fun v5 v5e => ?_)
      refine s_callV2 (k := t) (s1 := 2) (s2 := 0) (as := [(0, v5)]) (rest := []) kx_70_33 kp_70_72 (Or.inl rfl) rfl (tkt_0 hT ht) ki_106 kcl_106 rfl rfl (by decide) (m_106 (d := d) (room := v5) hT hI ht) (kF (fun v6 v6p => ?_))
      refine s_if_eq (t := 81) kx_70_36 (by decide) (fun hc7 => ?_) (fun hc7 => ?_)
      · replace v6p := v6p.resolve_left (by omega)
        refine s_iconst (v := 0) kx_70_81 (by decide) ?_
        exact s_iret kx_70_82 (Or.inr ⟨kq_70, by omega⟩) ⟨_, rfl, rfl, (by omega)⟩
      · replace v6p := v6p.resolve_right (by omega)
        refine s_aload_n kx_70_39 rfl ?_
        refine s_iload_n kx_70_40 rfl ?_
        refine s_callV2 (k := 7) (s1 := 2) (s2 := 0) (as := [(0, person)]) (rest := []) kx_70_41 kp_70_63 (Or.inl rfl) rfl (tk_7 hT) ki_43 kcl_43 rfl rfl (by decide) (m_43 (d := d) (person := person) hT hI (by omega)) (kF (fun v8 v8p => ?_))
        refine s_aload_n kx_70_44 rfl ?_
        refine r_getR (k := 7) (f := 0) (k2 := t) kx_70_45 kp_70_14 (tk_7 hT) kf_5_0 (by decide) h70 ?_
        refine r_getK (k := t) (f := 3) kx_70_48 kp_70_153 (tkt_0 hT ht) kf_9_3 (fun _ => rfl) v5e ?_
        refine s_icmp_ne (t := 81) kx_70_51 (by decide) (fun hc9 => ?_) (fun hc9 => ?_)
        · refine s_iconst (v := 0) kx_70_81 (by decide) ?_
          exact s_iret kx_70_82 (Or.inr ⟨kq_70, by omega⟩) ⟨_, rfl, rfl, (by omega)⟩
        · refine s_aload_n kx_70_54 rfl ?_
          refine s_iload_n kx_70_55 rfl ?_
          refine s_callV2 (k := 7) (s1 := 2) (s2 := 0) (as := [(0, chair)]) (rest := []) kx_70_56 kp_70_66 (Or.inl rfl) rfl (tk_7 hT) ki_44 kcl_44 rfl rfl (by decide) (m_44 (d := d) (chair := chair) hT hI (by omega)) (kF (fun v10 v10p => ?_))
          refine s_aload_n kx_70_59 rfl ?_
          refine r_getR (k := 7) (f := 0) (k2 := t) kx_70_60 kp_70_14 (tk_7 hT) kf_5_0 (by decide) h70 ?_
          refine r_getK (k := t) (f := 3) kx_70_63 kp_70_153 (tkt_0 hT ht) kf_9_3 (fun _ => rfl) v5e ?_
          refine s_icmp_ne (t := 81) kx_70_66 (by decide) (fun hc11 => ?_) (fun hc11 => ?_)
          · refine s_iconst (v := 0) kx_70_81 (by decide) ?_
            exact s_iret kx_70_82 (Or.inr ⟨kq_70, by omega⟩) ⟨_, rfl, rfl, (by omega)⟩
          · refine s_aload_n kx_70_69 rfl ?_
            refine s_iload_n kx_70_70 rfl ?_
            refine s_callV2 (k := 7) (s1 := 2) (s2 := 0) (as := [(0, chair)]) (rest := []) kx_70_71 kp_70_47 (Or.inl rfl) rfl (tk_7 hT) ki_45 kcl_45 rfl rfl (by decide) (m_45 (d := d) (chair := chair) hT hI (by omega)) (kF (fun v12 v12p => ?_))
            refine s_if_eq (t := 81) kx_70_74 (by decide) (fun hc13 => ?_) (fun hc13 => ?_)
            · refine s_iconst (v := 0) kx_70_81 (by decide) ?_
              exact s_iret kx_70_82 (Or.inr ⟨kq_70, by omega⟩) ⟨_, rfl, rfl, (by omega)⟩
            · refine s_iconst (v := 1) kx_70_77 (by decide) ?_
              refine s_goto (t := 82) kx_70_78 (by decide) ?_
              exact s_iret kx_70_82 (Or.inr ⟨kq_70, by omega⟩) ⟨_, rfl, rfl, (by omega)⟩
theorem kx_67_0 : x_code k_P 67 0 = some (.iload_n 1, 1) := by decide +kernel
theorem kx_67_1 : x_code k_P 67 1 = some (.ifCond .lt 11, 3) := by decide +kernel
theorem kx_67_12 : x_code k_P 67 12 = some (.iconst (-1), 1) := by decide +kernel
theorem kx_67_13 : x_code k_P 67 13 = some (.ireturn, 1) := by decide +kernel
theorem kq_67 : x_retk k_P 67 = 1 := by decide +kernel
theorem kx_67_4 : x_code k_P 67 4 = some (.iload_n 1, 1) := by decide +kernel
theorem kx_67_5 : x_code k_P 67 5 = some (.aload_n 0, 1) := by decide +kernel
theorem kx_67_6 : x_code k_P 67 6 = some (.invokevirtual 140, 3) := by decide +kernel
theorem kp_67_140 : x_pool k_P 67 140 = (2, 48, 0) := by decide +kernel
theorem ki_48 : x_mci k_P 48 = 5 := by decide +kernel
theorem kcl_48 : x_maxL k_P 48 ≤ 60 ∧ 1 ≤ x_maxL k_P 48 := by decide +kernel
theorem kx_67_9 : x_code k_P 67 9 = some (.if_icmp .lt 5, 3) := by decide +kernel
theorem kx_67_14 : x_code k_P 67 14 = some (.aload_n 0, 1) := by decide +kernel
theorem kx_67_15 : x_code k_P 67 15 = some (.getfield 21, 3) := by decide +kernel
theorem kp_67_21 : x_pool k_P 67 21 = (1, 5, 2) := by decide +kernel
theorem kx_67_18 : x_code k_P 67 18 = some (.bipush 41, 2) := by decide +kernel
theorem kx_67_20 : x_code k_P 67 20 = some (.iload_n 1, 1) := by decide +kernel
theorem kx_67_21 : x_code k_P 67 21 = some (.iadd, 1) := by decide +kernel
theorem kx_67_22 : x_code k_P 67 22 = some (.iaload, 1) := by decide +kernel
theorem kx_67_23 : x_code k_P 67 23 = some (.istore_n 3, 1) := by decide +kernel
theorem km_67_3 : 3 < x_maxL k_P 67 := by decide +kernel
theorem kx_67_24 : x_code k_P 67 24 = some (.iload_n 2, 1) := by decide +kernel
theorem kx_67_25 : x_code k_P 67 25 = some (.tableswitch 56 0 3 #[31, 36, 43, 51], 31) := by decide +kernel
theorem kx_67_56 : x_code k_P 67 56 = some (.iload_n 3, 1) := by decide +kernel
theorem kx_67_57 : x_code k_P 67 57 = some (.bipush 7, 2) := by decide +kernel
theorem kx_67_59 : x_code k_P 67 59 = some (.iand, 1) := by decide +kernel
theorem kx_67_60 : x_code k_P 67 60 = some (.ireturn, 1) := by decide +kernel
theorem kx_67_61 : x_code k_P 67 61 = some (.iload_n 3, 1) := by decide +kernel
theorem kx_67_62 : x_code k_P 67 62 = some (.iconst 3, 1) := by decide +kernel
theorem kx_67_63 : x_code k_P 67 63 = some (.ishr, 1) := by decide +kernel
theorem kx_67_64 : x_code k_P 67 64 = some (.bipush 7, 2) := by decide +kernel
theorem kx_67_66 : x_code k_P 67 66 = some (.iand, 1) := by decide +kernel
theorem kx_67_67 : x_code k_P 67 67 = some (.ireturn, 1) := by decide +kernel
theorem kx_67_68 : x_code k_P 67 68 = some (.iload_n 3, 1) := by decide +kernel
theorem kx_67_69 : x_code k_P 67 69 = some (.bipush 6, 2) := by decide +kernel
theorem kx_67_71 : x_code k_P 67 71 = some (.ishr, 1) := by decide +kernel
theorem kx_67_72 : x_code k_P 67 72 = some (.bipush 7, 2) := by decide +kernel
theorem kx_67_74 : x_code k_P 67 74 = some (.iand, 1) := by decide +kernel
theorem kx_67_75 : x_code k_P 67 75 = some (.ireturn, 1) := by decide +kernel
theorem kx_67_76 : x_code k_P 67 76 = some (.iload_n 3, 1) := by decide +kernel
theorem kx_67_77 : x_code k_P 67 77 = some (.bipush 9, 2) := by decide +kernel
theorem kx_67_79 : x_code k_P 67 79 = some (.ishr, 1) := by decide +kernel
theorem kx_67_80 : x_code k_P 67 80 = some (.ireturn, 1) := by decide +kernel
theorem kx_67_81 : x_code k_P 67 81 = some (.iconst (-1), 1) := by decide +kernel
theorem kx_67_82 : x_code k_P 67 82 = some (.ireturn, 1) := by decide +kernel
theorem m_67 {xs : Nat → Int} {Ln d : Nat} {T : List cK} {M : cM} (hT : TT T) (hI : Rng M) {k what : Int} : cC k_P xs Ln (d + 1) 67 [rf 7, (0, k), (0, what)] (T, M) (qF T M 0 (fun v => True)) := by
  show cP k_P xs Ln (d + 1) 67 0 [(0, rf 7), (1, (0, k)), (2, (0, what))] [] (T, M) _
  refine s_iload_n kx_67_0 rfl ?_
  refine s_if_lt (t := 12) kx_67_1 (by decide) (fun hc1 => ?_) (fun hc1 => ?_)
  · refine s_iconst (v := (-1)) kx_67_12 (by decide) ?_
    exact s_iret kx_67_13 (Or.inl kq_67) ⟨_, rfl, rfl, trivial⟩
  · refine s_iload_n kx_67_4 rfl ?_
    refine s_aload_n kx_67_5 rfl ?_
    refine s_callV2 (k := 7) (s1 := 1) (s2 := 1) (as := []) (rest := [(0, k)]) kx_67_6 kp_67_140 (Or.inl rfl) rfl (tk_7 hT) ki_48 kcl_48 rfl rfl (by decide) (m_48 (d := d) hT hI) (kF (fun v2 v2p => ?_))
    refine s_icmp_lt (t := 14) kx_67_9 (by decide) (fun hc3 => ?_) (fun hc3 => ?_)
    · refine s_aload_n kx_67_14 rfl ?_
      refine r_getR (k := 7) (f := 2) (k2 := 42) kx_67_15 kp_67_21 (tk_7 hT) kf_5_2 (by decide) (rq_7_2 hI) ?_
      refine s_bipush (v := 41) kx_67_18 (by decide) ?_
      refine s_iload_n kx_67_20 rfl ?_
      refine r_add kx_67_21 ⟨by omega, by omega⟩ ?_
      refine r_aldU (k := 42) kx_67_22 (tk_42 hT) ⟨by omega, by omega⟩ (fun v4 v4e => ?_)
      refine s_istore_n kx_67_23 km_67_3 rfl ?_
      refine s_iload_n kx_67_24 rfl ?_
      rcases (by omega : what = 0 ∨ what = 1 ∨ what = 2 ∨ what = 3 ∨ (what < 0 ∨ 3 < what)) with hs5 | hs5 | hs5 | hs5 | hs5
      · refine s_tsw (t := 56) kx_67_25 (by decide) 0 hs5 (by decide) ?_
        refine s_iload_n kx_67_56 rfl ?_
        refine s_bipush (v := 7) kx_67_57 (by decide) ?_
        refine r_iandM kx_67_59 (by decide) (by decide) (fun v6 v6a v6b => ?_)
        exact s_iret kx_67_60 (Or.inl kq_67) ⟨_, rfl, rfl, trivial⟩
      · refine s_tsw (t := 61) kx_67_25 (by decide) 1 hs5 (by decide) ?_
        refine s_iload_n kx_67_61 rfl ?_
        refine s_iconst (v := 3) kx_67_62 (by decide) ?_
        refine r_ishrR kx_67_63 (fun v7 v7a v7b => ?_)
        refine s_bipush (v := 7) kx_67_64 (by decide) ?_
        refine r_iandM kx_67_66 (by decide) (by decide) (fun v8 v8a v8b => ?_)
        exact s_iret kx_67_67 (Or.inl kq_67) ⟨_, rfl, rfl, trivial⟩
      · refine s_tsw (t := 68) kx_67_25 (by decide) 2 hs5 (by decide) ?_
        refine s_iload_n kx_67_68 rfl ?_
        refine s_bipush (v := 6) kx_67_69 (by decide) ?_
        refine r_ishrR kx_67_71 (fun v9 v9a v9b => ?_)
        refine s_bipush (v := 7) kx_67_72 (by decide) ?_
        refine r_iandM kx_67_74 (by decide) (by decide) (fun v10 v10a v10b => ?_)
        exact s_iret kx_67_75 (Or.inl kq_67) ⟨_, rfl, rfl, trivial⟩
      · refine s_tsw (t := 76) kx_67_25 (by decide) 3 hs5 (by decide) ?_
        refine s_iload_n kx_67_76 rfl ?_
        refine s_bipush (v := 9) kx_67_77 (by decide) ?_
        refine r_ishrR kx_67_79 (fun v11 v11a v11b => ?_)
        exact s_iret kx_67_80 (Or.inl kq_67) ⟨_, rfl, rfl, trivial⟩
      · refine s_tswD (t := 81) kx_67_25 (by decide) hs5 (by decide) ?_
        refine s_iconst (v := (-1)) kx_67_81 (by decide) ?_
        exact s_iret kx_67_82 (Or.inl kq_67) ⟨_, rfl, rfl, trivial⟩
    · refine s_iconst (v := (-1)) kx_67_12 (by decide) ?_
      exact s_iret kx_67_13 (Or.inl kq_67) ⟨_, rfl, rfl, trivial⟩
theorem kx_73_0 : x_code k_P 73 0 = some (.iload_n 2, 1) := by decide +kernel
theorem kx_73_1 : x_code k_P 73 1 = some (.tableswitch 78 0 5 #[39, 45, 51, 61, 61, 61], 39) := by decide +kernel
theorem kx_73_40 : x_code k_P 73 40 = some (.aload_n 0, 1) := by decide +kernel
theorem kx_73_41 : x_code k_P 73 41 = some (.iload_n 1, 1) := by decide +kernel
theorem kx_73_42 : x_code k_P 73 42 = some (.invokevirtual 63, 3) := by decide +kernel
theorem kp_73_63 : x_pool k_P 73 63 = (2, 43, 1) := by decide +kernel
theorem kx_73_45 : x_code k_P 73 45 = some (.ireturn, 1) := by decide +kernel
theorem kq_73 : x_retk k_P 73 = 1 := by decide +kernel
theorem kx_73_46 : x_code k_P 73 46 = some (.aload_n 0, 1) := by decide +kernel
theorem kx_73_47 : x_code k_P 73 47 = some (.iload_n 1, 1) := by decide +kernel
theorem kx_73_48 : x_code k_P 73 48 = some (.invokevirtual 66, 3) := by decide +kernel
theorem kp_73_66 : x_pool k_P 73 66 = (2, 44, 1) := by decide +kernel
theorem kx_73_51 : x_code k_P 73 51 = some (.ireturn, 1) := by decide +kernel
theorem kx_73_52 : x_code k_P 73 52 = some (.aload_n 0, 1) := by decide +kernel
theorem kx_73_53 : x_code k_P 73 53 = some (.getfield 21, 3) := by decide +kernel
theorem kp_73_21 : x_pool k_P 73 21 = (1, 5, 2) := by decide +kernel
theorem kx_73_56 : x_code k_P 73 56 = some (.bipush 16, 2) := by decide +kernel
theorem kx_73_58 : x_code k_P 73 58 = some (.iload_n 1, 1) := by decide +kernel
theorem kx_73_59 : x_code k_P 73 59 = some (.iadd, 1) := by decide +kernel
theorem kx_73_60 : x_code k_P 73 60 = some (.iaload, 1) := by decide +kernel
theorem kx_73_61 : x_code k_P 73 61 = some (.ireturn, 1) := by decide +kernel
theorem kx_73_62 : x_code k_P 73 62 = some (.aload_n 0, 1) := by decide +kernel
theorem kx_73_63 : x_code k_P 73 63 = some (.iload_n 1, 1) := by decide +kernel
theorem kx_73_64 : x_code k_P 73 64 = some (.invokevirtual 50, 3) := by decide +kernel
theorem kp_73_50 : x_pool k_P 73 50 = (2, 46, 1) := by decide +kernel
theorem kx_73_67 : x_code k_P 73 67 = some (.bipush 8, 2) := by decide +kernel
theorem kx_73_69 : x_code k_P 73 69 = some (.iconst 5, 1) := by decide +kernel
theorem kx_73_70 : x_code k_P 73 70 = some (.iload_n 2, 1) := by decide +kernel
theorem kx_73_71 : x_code k_P 73 71 = some (.isub, 1) := by decide +kernel
theorem kx_73_72 : x_code k_P 73 72 = some (.imul, 1) := by decide +kernel
theorem kx_73_73 : x_code k_P 73 73 = some (.ishr, 1) := by decide +kernel
theorem kx_73_74 : x_code k_P 73 74 = some (.sipush 255, 3) := by decide +kernel
theorem kx_73_77 : x_code k_P 73 77 = some (.iand, 1) := by decide +kernel
theorem kx_73_78 : x_code k_P 73 78 = some (.ireturn, 1) := by decide +kernel
theorem kx_73_79 : x_code k_P 73 79 = some (.aload_n 0, 1) := by decide +kernel
theorem kx_73_80 : x_code k_P 73 80 = some (.iload_n 1, 1) := by decide +kernel
theorem kx_73_81 : x_code k_P 73 81 = some (.invokevirtual 60, 3) := by decide +kernel
theorem kp_73_60 : x_pool k_P 73 60 = (2, 47, 1) := by decide +kernel
theorem kx_73_84 : x_code k_P 73 84 = some (.bipush 8, 2) := by decide +kernel
theorem kx_73_86 : x_code k_P 73 86 = some (.bipush 8, 2) := by decide +kernel
theorem kx_73_88 : x_code k_P 73 88 = some (.iload_n 2, 1) := by decide +kernel
theorem kx_73_89 : x_code k_P 73 89 = some (.isub, 1) := by decide +kernel
theorem kx_73_90 : x_code k_P 73 90 = some (.imul, 1) := by decide +kernel
theorem kx_73_91 : x_code k_P 73 91 = some (.ishr, 1) := by decide +kernel
theorem kx_73_92 : x_code k_P 73 92 = some (.sipush 255, 3) := by decide +kernel
theorem kx_73_95 : x_code k_P 73 95 = some (.iand, 1) := by decide +kernel
theorem kx_73_96 : x_code k_P 73 96 = some (.ireturn, 1) := by decide +kernel
theorem m_73 {xs : Nat → Int} {Ln d : Nat} {T : List cK} {M : cM} (hT : TT T) (hI : Rng M) {person k : Int} (p0 : 0 ≤ person ∧ person ≤ 7) : cC k_P xs Ln (d + 1) 73 [rf 7, (0, person), (0, k)] (T, M) (qF T M 0 (fun v => True)) := by
  show cP k_P xs Ln (d + 1) 73 0 [(0, rf 7), (1, (0, person)), (2, (0, k))] [] (T, M) _
  refine s_iload_n kx_73_0 rfl ?_
  rcases (by omega : k = 0 ∨ k = 1 ∨ k = 2 ∨ k = 3 ∨ k = 4 ∨ k = 5 ∨ (k < 0 ∨ 5 < k)) with hs1 | hs1 | hs1 | hs1 | hs1 | hs1 | hs1
  · refine s_tsw (t := 40) kx_73_1 (by decide) 0 hs1 (by decide) ?_
    refine s_aload_n kx_73_40 rfl ?_
    refine s_iload_n kx_73_41 rfl ?_
    refine s_callV2 (k := 7) (s1 := 2) (s2 := 0) (as := [(0, person)]) (rest := []) kx_73_42 kp_73_63 (Or.inl rfl) rfl (tk_7 hT) ki_43 kcl_43 rfl rfl (by decide) (m_43 (d := d) (person := person) hT hI (by omega)) (kF (fun v2 v2p => ?_))
    exact s_iret kx_73_45 (Or.inl kq_73) ⟨_, rfl, rfl, trivial⟩
  · refine s_tsw (t := 46) kx_73_1 (by decide) 1 hs1 (by decide) ?_
    refine s_aload_n kx_73_46 rfl ?_
    refine s_iload_n kx_73_47 rfl ?_
    refine s_callV2 (k := 7) (s1 := 2) (s2 := 0) (as := [(0, person)]) (rest := []) kx_73_48 kp_73_66 (Or.inl rfl) rfl (tk_7 hT) ki_44 kcl_44 rfl rfl (by decide) (m_44 (d := d) (chair := person) hT hI (by omega)) (kF (fun v3 v3p => ?_))
    exact s_iret kx_73_51 (Or.inl kq_73) ⟨_, rfl, rfl, trivial⟩
  · refine s_tsw (t := 52) kx_73_1 (by decide) 2 hs1 (by decide) ?_
    refine s_aload_n kx_73_52 rfl ?_
    refine r_getR (k := 7) (f := 2) (k2 := 42) kx_73_53 kp_73_21 (tk_7 hT) kf_5_2 (by decide) (rq_7_2 hI) ?_
    refine s_bipush (v := 16) kx_73_56 (by decide) ?_
    refine s_iload_n kx_73_58 rfl ?_
    refine r_add kx_73_59 ⟨by omega, by omega⟩ ?_
    refine r_aldU (k := 42) kx_73_60 (tk_42 hT) ⟨by omega, by omega⟩ (fun v4 v4e => ?_)
    exact s_iret kx_73_61 (Or.inl kq_73) ⟨_, rfl, rfl, trivial⟩
  · refine s_tsw (t := 62) kx_73_1 (by decide) 3 hs1 (by decide) ?_
    refine s_aload_n kx_73_62 rfl ?_
    refine s_iload_n kx_73_63 rfl ?_
    refine s_callV2 (k := 7) (s1 := 2) (s2 := 0) (as := [(0, person)]) (rest := []) kx_73_64 kp_73_50 (Or.inl rfl) rfl (tk_7 hT) ki_46 kcl_46 rfl rfl (by decide) (m_46 (d := d) (person := person) hT hI (by omega)) (kF (fun v5 v5p => ?_))
    refine s_bipush (v := 8) kx_73_67 (by decide) ?_
    refine s_iconst (v := 5) kx_73_69 (by decide) ?_
    refine s_iload_n kx_73_70 rfl ?_
    refine r_sub kx_73_71 ⟨by omega, by omega⟩ ?_
    refine r_mul kx_73_72 ⟨by omega, by omega⟩ ?_
    refine r_ishrR kx_73_73 (fun v6 v6a v6b => ?_)
    refine s_sipush (v := 255) kx_73_74 (by decide) ?_
    refine r_iandM kx_73_77 (by decide) (by decide) (fun v7 v7a v7b => ?_)
    exact s_iret kx_73_78 (Or.inl kq_73) ⟨_, rfl, rfl, trivial⟩
  · refine s_tsw (t := 62) kx_73_1 (by decide) 4 hs1 (by decide) ?_
    refine s_aload_n kx_73_62 rfl ?_
    refine s_iload_n kx_73_63 rfl ?_
    refine s_callV2 (k := 7) (s1 := 2) (s2 := 0) (as := [(0, person)]) (rest := []) kx_73_64 kp_73_50 (Or.inl rfl) rfl (tk_7 hT) ki_46 kcl_46 rfl rfl (by decide) (m_46 (d := d) (person := person) hT hI (by omega)) (kF (fun v8 v8p => ?_))
    refine s_bipush (v := 8) kx_73_67 (by decide) ?_
    refine s_iconst (v := 5) kx_73_69 (by decide) ?_
    refine s_iload_n kx_73_70 rfl ?_
    refine r_sub kx_73_71 ⟨by omega, by omega⟩ ?_
    refine r_mul kx_73_72 ⟨by omega, by omega⟩ ?_
    refine r_ishrR kx_73_73 (fun v9 v9a v9b => ?_)
    refine s_sipush (v := 255) kx_73_74 (by decide) ?_
    refine r_iandM kx_73_77 (by decide) (by decide) (fun v10 v10a v10b => ?_)
    exact s_iret kx_73_78 (Or.inl kq_73) ⟨_, rfl, rfl, trivial⟩
  · refine s_tsw (t := 62) kx_73_1 (by decide) 5 hs1 (by decide) ?_
    refine s_aload_n kx_73_62 rfl ?_
    refine s_iload_n kx_73_63 rfl ?_
    refine s_callV2 (k := 7) (s1 := 2) (s2 := 0) (as := [(0, person)]) (rest := []) kx_73_64 kp_73_50 (Or.inl rfl) rfl (tk_7 hT) ki_46 kcl_46 rfl rfl (by decide) (m_46 (d := d) (person := person) hT hI (by omega)) (kF (fun v11 v11p => ?_))
    refine s_bipush (v := 8) kx_73_67 (by decide) ?_
    refine s_iconst (v := 5) kx_73_69 (by decide) ?_
    refine s_iload_n kx_73_70 rfl ?_
    refine r_sub kx_73_71 ⟨by omega, by omega⟩ ?_
    refine r_mul kx_73_72 ⟨by omega, by omega⟩ ?_
    refine r_ishrR kx_73_73 (fun v12 v12a v12b => ?_)
    refine s_sipush (v := 255) kx_73_74 (by decide) ?_
    refine r_iandM kx_73_77 (by decide) (by decide) (fun v13 v13a v13b => ?_)
    exact s_iret kx_73_78 (Or.inl kq_73) ⟨_, rfl, rfl, trivial⟩
  · refine s_tswD (t := 79) kx_73_1 (by decide) hs1 (by decide) ?_
    refine s_aload_n kx_73_79 rfl ?_
    refine s_iload_n kx_73_80 rfl ?_
    refine s_callV2 (k := 7) (s1 := 2) (s2 := 0) (as := [(0, person)]) (rest := []) kx_73_81 kp_73_60 (Or.inl rfl) rfl (tk_7 hT) ki_47 kcl_47 rfl rfl (by decide) (m_47 (d := d) (person := person) hT hI (by omega)) (kF (fun v14 v14p => ?_))
    refine s_bipush (v := 8) kx_73_84 (by decide) ?_
    refine s_bipush (v := 8) kx_73_86 (by decide) ?_
    refine s_iload_n kx_73_88 rfl ?_
    refine r_isubR kx_73_89 (fun v15 v15a v15b => ?_)
    refine r_imulR kx_73_90 (fun v16 v16a v16b => ?_)
    refine r_ishrR kx_73_91 (fun v17 v17a v17b => ?_)
    refine s_sipush (v := 255) kx_73_92 (by decide) ?_
    refine r_iandM kx_73_95 (by decide) (by decide) (fun v18 v18a v18b => ?_)
    exact s_iret kx_73_96 (Or.inl kq_73) ⟨_, rfl, rfl, trivial⟩
