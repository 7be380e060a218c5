theorem kx_101_0 : x_code k_P 101 0 = some (.aload_n 0, 1) := by decide +kernel
theorem kx_101_1 : x_code k_P 101 1 = some (.getfield 12, 3) := by decide +kernel
theorem kp_101_12 : x_pool k_P 101 12 = (1, 7, 0) := by decide +kernel
theorem kf_7_0 : (x_cls k_P 7)[0]? = some 12 := by decide +kernel
theorem kx_101_4 : x_code k_P 101 4 = some (.iload_n 1, 1) := by decide +kernel
theorem kx_101_5 : x_code k_P 101 5 = some (.invokevirtual 22, 3) := by decide +kernel
theorem kp_101_22 : x_pool k_P 101 22 = (2, 23, 1) := by decide +kernel
theorem kx_101_8 : x_code k_P 101 8 = some (.ifCond .ne 11, 3) := by decide +kernel
theorem kx_101_19 : x_code k_P 101 19 = some (.iload_n 2, 1) := by decide +kernel
theorem kx_101_20 : x_code k_P 101 20 = some (.bipush 7, 2) := by decide +kernel
theorem kx_101_22 : x_code k_P 101 22 = some (.if_icmp .lt 19, 3) := by decide +kernel
theorem kx_101_41 : x_code k_P 101 41 = some (.aload_n 0, 1) := by decide +kernel
theorem kx_101_42 : x_code k_P 101 42 = some (.getfield 12, 3) := by decide +kernel
theorem kx_101_45 : x_code k_P 101 45 = some (.invokevirtual 28, 3) := by decide +kernel
theorem kp_101_28 : x_pool k_P 101 28 = (2, 26, 0) := by decide +kernel
theorem kx_101_48 : x_code k_P 101 48 = some (.iconst 1, 1) := by decide +kernel
theorem kx_101_49 : x_code k_P 101 49 = some (.ireturn, 1) := by decide +kernel
theorem kq_101 : x_retk k_P 101 = 2 := by decide +kernel
theorem kx_101_25 : x_code k_P 101 25 = some (.aload_n 0, 1) := by decide +kernel
theorem kx_101_26 : x_code k_P 101 26 = some (.getfield 12, 3) := by decide +kernel
theorem kx_101_29 : x_code k_P 101 29 = some (.iconst 5, 1) := by decide +kernel
theorem kx_101_30 : x_code k_P 101 30 = some (.aload_n 0, 1) := by decide +kernel
theorem kx_101_31 : x_code k_P 101 31 = some (.getfield 12, 3) := by decide +kernel
theorem kx_101_34 : x_code k_P 101 34 = some (.getfield 96, 3) := by decide +kernel
theorem kp_101_96 : x_pool k_P 101 96 = (1, 3, 5) := by decide +kernel
theorem kx_101_37 : x_code k_P 101 37 = some (.invokevirtual 99, 3) := by decide +kernel
theorem kp_101_99 : x_pool k_P 101 99 = (2, 20, 2) := by decide +kernel
theorem kx_101_40 : x_code k_P 101 40 = some (.ireturn, 1) := by decide +kernel
theorem kx_101_11 : x_code k_P 101 11 = some (.aload_n 0, 1) := by decide +kernel
theorem kx_101_12 : x_code k_P 101 12 = some (.getfield 12, 3) := by decide +kernel
theorem kx_101_15 : x_code k_P 101 15 = some (.invokevirtual 62, 3) := by decide +kernel
theorem kp_101_62 : x_pool k_P 101 62 = (2, 21, 0) := by decide +kernel
theorem kx_101_18 : x_code k_P 101 18 = some (.ireturn, 1) := by decide +kernel
def fS_101_m : List (Nat × Nat) := [(5, 2), (5, 3), (5, 4), (5, 5), (5, 6), (5, 7)]
theorem m_101 {xs : Nat → Int} {Ln d : Nat} {T : List cK} {M : cM} (hT : TT T) (hI : Rng M) (h50 : M 5 0 = ((2 : Nat) : Int)) {c o : Int} : cC k_P xs Ln (d + 3) 101 [rf 4, (0, c), (0, o)] (T, M) (qW T M fS_101_m 0 (fun v M1 => (v = 1 ∧ o < 7 ∧ M 5 3 = 4 ∧ M 5 2 ≤ M1 5 2 ∧ (M1 5 3 = 0 ∨ M1 5 3 = 5 ∨ M 5 2 + 1 ≤ M1 5 2)) ∨ (v = 0 ∧ M1 5 2 = M 5 2))) := by
  show cP k_P xs Ln (d + 3) 101 0 [(0, rf 4), (1, (0, c)), (2, (0, o))] [] (T, M) _
  have hFm : Fr fS_101_m M M := Fr.refl
  refine s_aload_n kx_101_0 rfl ?_
  refine r_getR (k := 4) (f := 0) (k2 := 5) kx_101_1 kp_101_12 (tk_4 hT) kf_7_0 (by decide) (rq_4_0 hI) ?_
  refine s_iload_n kx_101_4 rfl ?_
  refine s_callV2 (k := 5) (s1 := 2) (s2 := 0) (as := [(0, c)]) (rest := []) kx_101_5 kp_101_22 (Or.inl rfl) rfl (tk_5 hT) ki_23 kcl_23 rfl rfl (by decide) (m_23 (d := d + 2) (c := c) hT hI) (kF (fun v1 v1p => ?_))
  refine s_if_ne (t := 19) kx_101_8 (by decide) (fun hc2 => ?_) (fun hc2 => ?_)
  · replace v1p := v1p.resolve_right (by omega)
    refine s_iload_n kx_101_19 rfl ?_
    refine s_bipush (v := 7) kx_101_20 (by decide) ?_
    refine s_icmp_lt (t := 41) kx_101_22 (by decide) (fun hc3 => ?_) (fun hc3 => ?_)
    · refine s_aload_n kx_101_41 rfl ?_
      refine r_getR (k := 4) (f := 0) (k2 := 5) kx_101_42 kp_101_12 (tk_4 hT) kf_7_0 (by decide) (rq_4_0 hI) ?_
      refine s_callV2 (k := 5) (s1 := 1) (s2 := 0) (as := []) (rest := []) kx_101_45 kp_101_28 (Or.inl rfl) rfl (tk_5 hT) ki_26 kcl_26 rfl rfl (by decide) (m_26 (d := d) hT hI h50) (kV (fun M5 hI5 fr5 v4p => ?_))
      have hFm5 := hFm.call fr5 rfl
      refine s_iconst (v := 1) kx_101_48 (by decide) ?_
      exact s_iret kx_101_49 (Or.inr ⟨kq_101, by omega⟩) ⟨_, _, rfl, rfl, hI5, hFm5, (by omega)⟩
    · refine s_aload_n kx_101_25 rfl ?_
      refine r_getR (k := 4) (f := 0) (k2 := 5) kx_101_26 kp_101_12 (tk_4 hT) kf_7_0 (by decide) (rq_4_0 hI) ?_
      refine s_iconst (v := 5) kx_101_29 (by decide) ?_
      refine s_aload_n kx_101_30 rfl ?_
      refine r_getR (k := 4) (f := 0) (k2 := 5) kx_101_31 kp_101_12 (tk_4 hT) kf_7_0 (by decide) (rq_4_0 hI) ?_
      refine r_getI (k := 5) (f := 5) kx_101_34 kp_101_96 (tk_5 hT) kf_3_5 (fun _ => rfl) (rg_5_5 hI) (fun v6 v6e v6a v6b => ?_)
      refine s_callV2 (k := 5) (s1 := 3) (s2 := 0) (as := [(0, v6), (0, 5)]) (rest := []) kx_101_37 kp_101_99 (Or.inl rfl) rfl (tk_5 hT) ki_20 kcl_20 rfl rfl (by decide) (m_20 (d := d + 2) (kind := 5) (place := v6) hT hI) (kW (fun v7 M8 hI8 fr8 v7p => ?_))
      have hFm8 := hFm.call fr8 rfl
      have tr9 := (fr8 5 2 rfl)
      have tr10 := (fr8 5 3 rfl)
      exact s_iret kx_101_40 (Or.inr ⟨kq_101, by omega⟩) ⟨_, _, rfl, rfl, hI8, hFm8, (by omega)⟩
  · replace v1p := v1p.resolve_left (by omega)
    refine s_aload_n kx_101_11 rfl ?_
    refine r_getR (k := 4) (f := 0) (k2 := 5) kx_101_12 kp_101_12 (tk_4 hT) kf_7_0 (by decide) (rq_4_0 hI) ?_
    refine s_callV2 (k := 5) (s1 := 1) (s2 := 0) (as := []) (rest := []) kx_101_15 kp_101_62 (Or.inl rfl) rfl (tk_5 hT) ki_21 kcl_21 rfl rfl (by decide) (m_21 (d := d + 1) hT hI) (kW (fun v11 M12 hI12 fr12 v11p => ?_))
    have hFm12 := hFm.call fr12 rfl
    have tr13 := (fr12 5 2 rfl)
    have tr14 := (fr12 5 3 rfl)
    exact s_iret kx_101_18 (Or.inr ⟨kq_101, by omega⟩) ⟨_, _, rfl, rfl, hI12, hFm12, (by omega)⟩
theorem kx_91_0 : x_code k_P 91 0 = some (.aload_n 0, 1) := by decide +kernel
theorem kx_91_1 : x_code k_P 91 1 = some (.getfield 12, 3) := by decide +kernel
theorem kp_91_12 : x_pool k_P 91 12 = (1, 7, 0) := by decide +kernel
theorem kx_91_4 : x_code k_P 91 4 = some (.bipush 42, 2) := by decide +kernel
theorem kx_91_6 : x_code k_P 91 6 = some (.invokevirtual 22, 3) := by decide +kernel
theorem kp_91_22 : x_pool k_P 91 22 = (2, 23, 1) := by decide +kernel
theorem kx_91_9 : x_code k_P 91 9 = some (.ifCond .eq 6, 3) := by decide +kernel
theorem kx_91_15 : x_code k_P 91 15 = some (.aload_n 0, 1) := by decide +kernel
theorem kx_91_16 : x_code k_P 91 16 = some (.getfield 12, 3) := by decide +kernel
theorem kx_91_19 : x_code k_P 91 19 = some (.bipush 47, 2) := by decide +kernel
theorem kx_91_21 : x_code k_P 91 21 = some (.invokevirtual 22, 3) := by decide +kernel
theorem kx_91_24 : x_code k_P 91 24 = some (.ifCond .eq 6, 3) := by decide +kernel
theorem kx_91_30 : x_code k_P 91 30 = some (.aload_n 0, 1) := by decide +kernel
theorem kx_91_31 : x_code k_P 91 31 = some (.getfield 12, 3) := by decide +kernel
theorem kx_91_34 : x_code k_P 91 34 = some (.bipush 37, 2) := by decide +kernel
theorem kx_91_36 : x_code k_P 91 36 = some (.invokevirtual 22, 3) := by decide +kernel
theorem kx_91_39 : x_code k_P 91 39 = some (.ifCond .eq 8, 3) := by decide +kernel
theorem kx_91_47 : x_code k_P 91 47 = some (.iconst 0, 1) := by decide +kernel
theorem kx_91_48 : x_code k_P 91 48 = some (.ireturn, 1) := by decide +kernel
theorem kq_91 : x_retk k_P 91 = 1 := by decide +kernel
theorem kx_91_42 : x_code k_P 91 42 = some (.bipush (-11), 2) := by decide +kernel
theorem kx_91_44 : x_code k_P 91 44 = some (.goto 4, 3) := by decide +kernel
theorem kx_91_27 : x_code k_P 91 27 = some (.bipush (-10), 2) := by decide +kernel
theorem kx_91_29 : x_code k_P 91 29 = some (.ireturn, 1) := by decide +kernel
theorem kx_91_12 : x_code k_P 91 12 = some (.bipush (-9), 2) := by decide +kernel
theorem kx_91_14 : x_code k_P 91 14 = some (.ireturn, 1) := by decide +kernel
theorem m_91 {xs : Nat → Int} {Ln d : Nat} {T : List cK} {M : cM} (hT : TT T) (hI : Rng M) : cC k_P xs Ln (d + 1) 91 [rf 4] (T, M) (qF T M 0 (fun v => (v ≠ 0 ∧ M 5 3 = 4) ∨ v = 0)) := by
  show cP k_P xs Ln (d + 1) 91 0 [(0, rf 4)] [] (T, M) _
  refine s_aload_n kx_91_0 rfl ?_
  refine r_getR (k := 4) (f := 0) (k2 := 5) kx_91_1 kp_91_12 (tk_4 hT) kf_7_0 (by decide) (rq_4_0 hI) ?_
  refine s_bipush (v := 42) kx_91_4 (by decide) ?_
  refine s_callV2 (k := 5) (s1 := 2) (s2 := 0) (as := [(0, 42)]) (rest := []) kx_91_6 kp_91_22 (Or.inl rfl) rfl (tk_5 hT) ki_23 kcl_23 rfl rfl (by decide) (m_23 (d := d) (c := 42) hT hI) (kF (fun v1 v1p => ?_))
  refine s_if_eq (t := 15) kx_91_9 (by decide) (fun hc2 => ?_) (fun hc2 => ?_)
  · replace v1p := v1p.resolve_left (by omega)
    refine s_aload_n kx_91_15 rfl ?_
    refine r_getR (k := 4) (f := 0) (k2 := 5) kx_91_16 kp_91_12 (tk_4 hT) kf_7_0 (by decide) (rq_4_0 hI) ?_
    refine s_bipush (v := 47) kx_91_19 (by decide) ?_
    refine s_callV2 (k := 5) (s1 := 2) (s2 := 0) (as := [(0, 47)]) (rest := []) kx_91_21 kp_91_22 (Or.inl rfl) rfl (tk_5 hT) ki_23 kcl_23 rfl rfl (by decide) (m_23 (d := d) (c := 47) hT hI) (kF (fun v3 v3p => ?_))
    refine s_if_eq (t := 30) kx_91_24 (by decide) (fun hc4 => ?_) (fun hc4 => ?_)
    · replace v3p := v3p.resolve_left (by omega)
      refine s_aload_n kx_91_30 rfl ?_
      refine r_getR (k := 4) (f := 0) (k2 := 5) kx_91_31 kp_91_12 (tk_4 hT) kf_7_0 (by decide) (rq_4_0 hI) ?_
      refine s_bipush (v := 37) kx_91_34 (by decide) ?_
      refine s_callV2 (k := 5) (s1 := 2) (s2 := 0) (as := [(0, 37)]) (rest := []) kx_91_36 kp_91_22 (Or.inl rfl) rfl (tk_5 hT) ki_23 kcl_23 rfl rfl (by decide) (m_23 (d := d) (c := 37) hT hI) (kF (fun v5 v5p => ?_))
      refine s_if_eq (t := 47) kx_91_39 (by decide) (fun hc6 => ?_) (fun hc6 => ?_)
      · replace v5p := v5p.resolve_left (by omega)
        refine s_iconst (v := 0) kx_91_47 (by decide) ?_
        exact s_iret kx_91_48 (Or.inl kq_91) ⟨_, rfl, rfl, (by omega)⟩
      · replace v5p := v5p.resolve_right (by omega)
        refine s_bipush (v := (-11)) kx_91_42 (by decide) ?_
        refine s_goto (t := 48) kx_91_44 (by decide) ?_
        exact s_iret kx_91_48 (Or.inl kq_91) ⟨_, rfl, rfl, (by omega)⟩
    · replace v3p := v3p.resolve_right (by omega)
      refine s_bipush (v := (-10)) kx_91_27 (by decide) ?_
      exact s_iret kx_91_29 (Or.inl kq_91) ⟨_, rfl, rfl, (by omega)⟩
  · replace v1p := v1p.resolve_right (by omega)
    refine s_bipush (v := (-9)) kx_91_12 (by decide) ?_
    exact s_iret kx_91_14 (Or.inl kq_91) ⟨_, rfl, rfl, (by omega)⟩
def fS_par : List (Nat × Nat) := [(5, 2), (5, 3), (5, 4), (5, 5), (5, 6), (5, 7), (19, 1), (19, 2), (21, 99999), (22, 1), (22, 2), (24, 99999), (36, 1), (36, 2), (38, 99999), (39, 1), (39, 2), (41, 99999), (114, 99999)]
abbrev LvS (xs : Nat → Int) (Ln D : Nat) (o : Int) : Prop := ∀ {T : List cK} {M : cM} {f : Nat} {k : Int}, TT T → Rng M → M 5 0 = ((2 : Nat) : Int) → fF f → Gm T M → 0 ≤ k → (M f 2 + k ≤ M 5 2 ∧ (M 5 3 = 0 ∨ M 5 3 = 5 ∨ M f 2 + k + 1 ≤ M 5 2)) → cC k_P xs Ln D 89 [rf 4, rf f, (0, o)] (T, M) (qG T M fS_par 0 (fun v M1 => (v = 1 ∧ M1 f 2 + k ≤ M1 5 2 ∧ (M1 5 3 = 0 ∨ M1 5 3 = 5 ∨ M1 f 2 + k + 1 ≤ M1 5 2)) ∨ (v = 0 ∧ M1 f 2 + k ≤ M1 5 2)))
abbrev LvT (xs : Nat → Int) (Ln D : Nat) (o : Int) : Prop := ∀ {T : List cK} {M : cM} {f : Nat} {k : Int}, TT T → Rng M → M 5 0 = ((2 : Nat) : Int) → fF f → Gm T M → 0 ≤ k → (M f 2 + k ≤ M 5 2 ∧ (M 5 3 = 0 ∨ M 5 3 = 5 ∨ M f 2 + k + 1 ≤ M 5 2)) → cC k_P xs Ln D 96 [rf 4, rf f, (0, o)] (T, M) (qG T M fS_par 0 (fun v M1 => (v = 1 ∧ M1 f 2 + k ≤ M1 5 2 ∧ (M1 5 3 = 0 ∨ M1 5 3 = 5 ∨ M1 f 2 + k + 1 ≤ M1 5 2)) ∨ (v = 0 ∧ M1 f 2 + k ≤ M1 5 2)))
abbrev LvF (xs : Nat → Int) (Ln D : Nat) (o : Int) : Prop := ∀ {T : List cK} {M : cM} {f : Nat} {k : Int}, TT T → Rng M → M 5 0 = ((2 : Nat) : Int) → fF f → Gm T M → 0 ≤ k → (M f 2 + k ≤ M 5 2 ∧ (M 5 3 = 0 ∨ M 5 3 = 5 ∨ M f 2 + k + 1 ≤ M 5 2)) → cC k_P xs Ln D 98 [rf 4, rf f, (0, o)] (T, M) (qG T M fS_par 0 (fun v M1 => (v = 1 ∧ M1 f 2 + k ≤ M1 5 2 ∧ (M1 5 3 = 0 ∨ M1 5 3 = 5 ∨ M1 f 2 + k + 1 ≤ M1 5 2)) ∨ (v = 0 ∧ M1 f 2 + k ≤ M1 5 2)))
def Lv (xs : Nat → Int) (Ln D : Nat) (o : Int) : Prop := LvS xs Ln D o ∧ LvT xs Ln D o ∧ LvF xs Ln D o
theorem Lv.deep {xs : Nat → Int} {Ln D E : Nat} {o : Int} (h : Lv xs Ln D o) (hd : D ≤ E) : Lv xs Ln E o :=
  ⟨fun a b c e f g i => (h.1 a b c e f g i).deep hd, fun a b c e f g i => (h.2.1 a b c e f g i).deep hd, fun a b c e f g i => (h.2.2 a b c e f g i).deep hd⟩
theorem kx_93_0 : x_code k_P 93 0 = some (.aload_n 1, 1) := by decide +kernel
theorem kx_93_1 : x_code k_P 93 1 = some (.iload_n 2, 1) := by decide +kernel
theorem kx_93_2 : x_code k_P 93 2 = some (.invokevirtual 31, 3) := by decide +kernel
theorem kp_93_31 : x_pool k_P 93 31 = (2, 10, 1) := by decide +kernel
theorem ki_10 : x_mci k_P 10 = 1 := by decide +kernel
theorem kcl_10 : x_maxL k_P 10 ≤ 60 ∧ 2 ≤ x_maxL k_P 10 := by decide +kernel
theorem kx_93_5 : x_code k_P 93 5 = some (.aload_n 0, 1) := by decide +kernel
theorem kx_93_6 : x_code k_P 93 6 = some (.getfield 12, 3) := by decide +kernel
theorem kp_93_12 : x_pool k_P 93 12 = (1, 7, 0) := by decide +kernel
theorem kx_93_9 : x_code k_P 93 9 = some (.invokevirtual 28, 3) := by decide +kernel
theorem kp_93_28 : x_pool k_P 93 28 = (2, 26, 0) := by decide +kernel
theorem kx_93_12 : x_code k_P 93 12 = some (.iconst 1, 1) := by decide +kernel
theorem kx_93_13 : x_code k_P 93 13 = some (.ireturn, 1) := by decide +kernel
theorem kq_93 : x_retk k_P 93 = 2 := by decide +kernel
theorem m_93 {xs : Nat → Int} {Ln d : Nat} {T : List cK} {M : cM} (hT : TT T) (hI : Rng M) (h50 : M 5 0 = ((2 : Nat) : Int)) {f : Nat} (hf : fF f) (hG : Gm T M) {step k : Int} (p0 : 0 ≤ k) (p1 : M f 2 + k + 1 ≤ M 5 2) : cC k_P xs Ln (d + 3) 93 [rf 4, rf f, (0, step)] (T, M) (qG T M fS_par 0 (fun v M1 => (v = 1 ∧ M1 f 2 + k ≤ M1 5 2 ∧ (M1 5 3 = 0 ∨ M1 5 3 = 5 ∨ M1 f 2 + k + 1 ≤ M1 5 2)) ∨ (v = 0 ∧ M1 f 2 + k ≤ M1 5 2))) := by
  show cP k_P xs Ln (d + 3) 93 0 [(0, rf 4), (1, rf f), (2, (0, step))] [] (T, M) _
  have hFm : Fr fS_par M M := Fr.refl
  have h52 := rg_5_2 hI
  have h53 := rg_5_3 hI
  refine s_aload_n kx_93_0 rfl ?_
  refine s_iload_n kx_93_1 rfl ?_
  refine s_callV2 (k := f) (s1 := 2) (s2 := 0) (as := [(0, step)]) (rest := []) kx_93_2 kp_93_31 (Or.inl rfl) rfl (tkf_0 hT hf) ki_10 kcl_10 rfl rfl (by decide) (m_10 (d := d) (step := step) hT hI hf hG (by omega)) (kGV (fun T2 M2 hT2 hI2 fr2 hG2 v1p => ?_))
  have hFm2 := hFm.call fr2 rfl
  have tr3 := (fr2 5 2 rfl)
  have tr4 := (fr2 5 3 rfl)
  have tr5 := rg_5_2 hI2
  have tr6 := rg_5_3 hI2
  refine s_aload_n kx_93_5 rfl ?_
  refine r_getR (k := 4) (f := 0) (k2 := 5) kx_93_6 kp_93_12 (tk_4 hT2) kf_7_0 (by decide) (rq_4_0 hI2) ?_
  refine s_callV2 (k := 5) (s1 := 1) (s2 := 0) (as := []) (rest := []) kx_93_9 kp_93_28 (Or.inl rfl) rfl (tk_5 hT2) ki_26 kcl_26 rfl rfl (by decide) (m_26 (d := d) hT2 hI2 ((fr2 5 0 rfl).trans h50)) (kV (fun M8 hI8 fr8 v7p => ?_))
  have hFm8 := hFm2.call fr8 rfl
  have tr9 := (fr8 f 2 (by rcases hf with rfl | rfl | rfl | rfl <;> rfl))
  have tr10 := rg_5_2 hI8
  have tr11 := rg_5_3 hI8
  refine s_iconst (v := 1) kx_93_12 (by decide) ?_
  exact s_iret kx_93_13 (Or.inr ⟨kq_93, by omega⟩) ⟨_, _, _, rfl, rfl, hT2, hI8, hFm8, (Gm.fr hG2 fr8 rfl), (by omega)⟩
theorem kx_94_0 : x_code k_P 94 0 = some (.aload_n 0, 1) := by decide +kernel
theorem kx_94_1 : x_code k_P 94 1 = some (.getfield 12, 3) := by decide +kernel
theorem kp_94_12 : x_pool k_P 94 12 = (1, 7, 0) := by decide +kernel
theorem kx_94_4 : x_code k_P 94 4 = some (.invokevirtual 28, 3) := by decide +kernel
theorem kp_94_28 : x_pool k_P 94 28 = (2, 26, 0) := by decide +kernel
theorem kx_94_7 : x_code k_P 94 7 = some (.aload_n 0, 1) := by decide +kernel
theorem kx_94_8 : x_code k_P 94 8 = some (.bipush 40, 2) := by decide +kernel
theorem kx_94_10 : x_code k_P 94 10 = some (.iload_n 2, 1) := by decide +kernel
theorem kx_94_11 : x_code k_P 94 11 = some (.invokevirtual 52, 3) := by decide +kernel
theorem kp_94_52 : x_pool k_P 94 52 = (2, 101, 2) := by decide +kernel
theorem ki_101 : x_mci k_P 101 = 7 := by decide +kernel
theorem kcl_101 : x_maxL k_P 101 ≤ 60 ∧ 3 ≤ x_maxL k_P 101 := by decide +kernel
theorem kx_94_14 : x_code k_P 94 14 = some (.ifCond .eq 53, 3) := by decide +kernel
theorem kx_94_67 : x_code k_P 94 67 = some (.iconst 0, 1) := by decide +kernel
theorem kx_94_68 : x_code k_P 94 68 = some (.istore 4, 2) := by decide +kernel
theorem km_94_4 : 4 < x_maxL k_P 94 := by decide +kernel
theorem kx_94_70 : x_code k_P 94 70 = some (.aload_n 1, 1) := by decide +kernel
theorem kx_94_71 : x_code k_P 94 71 = some (.iload_n 3, 1) := by decide +kernel
theorem kx_94_72 : x_code k_P 94 72 = some (.invokevirtual 31, 3) := by decide +kernel
theorem kp_94_31 : x_pool k_P 94 31 = (2, 10, 1) := by decide +kernel
theorem kx_94_75 : x_code k_P 94 75 = some (.iload 4, 2) := by decide +kernel
theorem kx_94_77 : x_code k_P 94 77 = some (.ireturn, 1) := by decide +kernel
theorem kq_94 : x_retk k_P 94 = 2 := by decide +kernel
theorem kx_94_17 : x_code k_P 94 17 = some (.aload_n 0, 1) := by decide +kernel
theorem kx_94_18 : x_code k_P 94 18 = some (.aload_n 1, 1) := by decide +kernel
theorem kx_94_19 : x_code k_P 94 19 = some (.iload_n 2, 1) := by decide +kernel
theorem kx_94_20 : x_code k_P 94 20 = some (.iconst 1, 1) := by decide +kernel
theorem kx_94_21 : x_code k_P 94 21 = some (.iadd, 1) := by decide +kernel
theorem kx_94_22 : x_code k_P 94 22 = some (.invokevirtual 56, 3) := by decide +kernel
theorem kp_94_56 : x_pool k_P 94 56 = (2, 89, 2) := by decide +kernel
theorem ki_89 : x_mci k_P 89 = 7 := by decide +kernel
theorem kcl_89 : x_maxL k_P 89 ≤ 60 ∧ 3 ≤ x_maxL k_P 89 := by decide +kernel
theorem kx_94_25 : x_code k_P 94 25 = some (.ifCond .eq 42, 3) := by decide +kernel
theorem kx_94_28 : x_code k_P 94 28 = some (.aload_n 0, 1) := by decide +kernel
theorem kx_94_29 : x_code k_P 94 29 = some (.getfield 12, 3) := by decide +kernel
theorem kx_94_32 : x_code k_P 94 32 = some (.bipush 44, 2) := by decide +kernel
theorem kx_94_34 : x_code k_P 94 34 = some (.invokevirtual 59, 3) := by decide +kernel
theorem kp_94_59 : x_pool k_P 94 59 = (2, 24, 1) := by decide +kernel
theorem ki_24 : x_mci k_P 24 = 3 := by decide +kernel
theorem kcl_24 : x_maxL k_P 24 ≤ 60 ∧ 2 ≤ x_maxL k_P 24 := by decide +kernel
theorem kx_94_37 : x_code k_P 94 37 = some (.ifCond .eq 30, 3) := by decide +kernel
theorem kx_94_40 : x_code k_P 94 40 = some (.aload_n 0, 1) := by decide +kernel
theorem kx_94_41 : x_code k_P 94 41 = some (.aload_n 1, 1) := by decide +kernel
theorem kx_94_42 : x_code k_P 94 42 = some (.iload_n 2, 1) := by decide +kernel
theorem kx_94_43 : x_code k_P 94 43 = some (.iconst 1, 1) := by decide +kernel
theorem kx_94_44 : x_code k_P 94 44 = some (.iadd, 1) := by decide +kernel
theorem kx_94_45 : x_code k_P 94 45 = some (.invokevirtual 56, 3) := by decide +kernel
theorem kx_94_48 : x_code k_P 94 48 = some (.ifCond .eq 19, 3) := by decide +kernel
theorem kx_94_51 : x_code k_P 94 51 = some (.aload_n 0, 1) := by decide +kernel
theorem kx_94_52 : x_code k_P 94 52 = some (.getfield 12, 3) := by decide +kernel
theorem kx_94_55 : x_code k_P 94 55 = some (.bipush 41, 2) := by decide +kernel
theorem kx_94_57 : x_code k_P 94 57 = some (.invokevirtual 59, 3) := by decide +kernel
theorem kx_94_60 : x_code k_P 94 60 = some (.ifCond .eq 7, 3) := by decide +kernel
theorem kx_94_63 : x_code k_P 94 63 = some (.iconst 1, 1) := by decide +kernel
theorem kx_94_64 : x_code k_P 94 64 = some (.goto 4, 3) := by decide +kernel
theorem m_94 {xs : Nat → Int} {Ln d : Nat} {T : List cK} {M : cM} (hT : TT T) (hI : Rng M) (h50 : M 5 0 = ((2 : Nat) : Int)) {f : Nat} (hf : fF f) (hG : Gm T M) {o step k : Int} (hL : o < 7 → Lv xs Ln d (o + 1)) (p0 : 0 ≤ o) (p1 : 0 ≤ k) (p2 : M f 2 + k + 1 ≤ M 5 2) : cC k_P xs Ln (d + 4) 94 [rf 4, rf f, (0, o), (0, step)] (T, M) (qG T M fS_par 0 (fun v M1 => (v = 1 ∧ M1 f 2 + k ≤ M1 5 2 ∧ (M1 5 3 = 0 ∨ M1 5 3 = 5 ∨ M1 f 2 + k + 1 ≤ M1 5 2)) ∨ (v = 0 ∧ M1 f 2 + k ≤ M1 5 2))) := by
  show cP k_P xs Ln (d + 4) 94 0 [(0, rf 4), (1, rf f), (2, (0, o)), (3, (0, step))] [] (T, M) _
  have hFm : Fr fS_par M M := Fr.refl
  have h52 := rg_5_2 hI
  have h53 := rg_5_3 hI
  refine s_aload_n kx_94_0 rfl ?_
  refine r_getR (k := 4) (f := 0) (k2 := 5) kx_94_1 kp_94_12 (tk_4 hT) kf_7_0 (by decide) (rq_4_0 hI) ?_
  refine s_callV2 (k := 5) (s1 := 1) (s2 := 0) (as := []) (rest := []) kx_94_4 kp_94_28 (Or.inl rfl) rfl (tk_5 hT) ki_26 kcl_26 rfl rfl (by decide) (m_26 (d := d + 1) hT hI h50) (kV (fun M2 hI2 fr2 v1p => ?_))
  have hFm2 := hFm.call fr2 rfl
  have tr3 := (fr2 f 2 (by rcases hf with rfl | rfl | rfl | rfl <;> rfl))
  have tr4 := rg_5_2 hI2
  have tr5 := rg_5_3 hI2
  refine s_aload_n kx_94_7 rfl ?_
  refine s_bipush (v := 40) kx_94_8 (by decide) ?_
  refine s_iload_n kx_94_10 rfl ?_
  refine s_callV2 (k := 4) (s1 := 3) (s2 := 0) (as := [(0, o), (0, 40)]) (rest := []) kx_94_11 kp_94_52 (Or.inl rfl) rfl (tk_4 hT) ki_101 kcl_101 rfl rfl (by decide) (m_101 (d := d) (c := 40) (o := o) hT hI2 ((fr2 5 0 rfl).trans h50)) (kW (fun v6 M7 hI7 fr7 v6p => ?_))
  have hFm7 := hFm2.call fr7 rfl
  have tr8 := (fr7 f 2 (by rcases hf with rfl | rfl | rfl | rfl <;> rfl))
  have tr9 := rg_5_2 hI7
  have tr10 := rg_5_3 hI7
  refine s_if_eq (t := 67) kx_94_14 (by decide) (fun hc11 => ?_) (fun hc11 => ?_)
  · replace v6p := v6p.resolve_left (by omega)
    refine s_iconst (v := 0) kx_94_67 (by decide) ?_
    refine s_istore kx_94_68 km_94_4 rfl ?_
    refine s_aload_n kx_94_70 rfl ?_
    refine s_iload_n kx_94_71 rfl ?_
    refine s_callV2 (k := f) (s1 := 2) (s2 := 0) (as := [(0, step)]) (rest := []) kx_94_72 kp_94_31 (Or.inl rfl) rfl (tkf_0 hT hf) ki_10 kcl_10 rfl rfl (by decide) (m_10 (d := d + 1) (step := step) hT hI7 hf (Gm.fr (Gm.fr hG fr2 rfl) fr7 rfl) (by omega)) (kGV (fun T13 M13 hT13 hI13 fr13 hG13 v12p => ?_))
    have hFm13 := hFm7.call fr13 rfl
    have tr14 := (fr13 5 2 rfl)
    have tr15 := (fr13 5 3 rfl)
    have tr16 := rg_5_2 hI13
    have tr17 := rg_5_3 hI13
    refine s_iload kx_94_75 rfl ?_
    exact s_iret kx_94_77 (Or.inr ⟨kq_94, by omega⟩) ⟨_, _, _, rfl, rfl, hT13, hI13, hFm13, hG13, (by omega)⟩
  · replace v6p := v6p.resolve_right (by omega)
    refine s_aload_n kx_94_17 rfl ?_
    refine s_aload_n kx_94_18 rfl ?_
    refine s_iload_n kx_94_19 rfl ?_
    refine s_iconst (v := 1) kx_94_20 (by decide) ?_
    refine r_add kx_94_21 ⟨by omega, by omega⟩ ?_
    refine s_callV2 (k := 4) (s1 := 3) (s2 := 0) (as := [(0, (o + 1)), rf f]) (rest := []) kx_94_22 kp_94_56 (Or.inl rfl) rfl (tk_4 hT) ki_89 kcl_89 rfl rfl (by decide) (cC.deep ((hL (by omega)).1 (k := k + 1) hT hI7 ((fr7 5 0 rfl).trans ((fr2 5 0 rfl).trans h50)) hf (Gm.fr (Gm.fr hG fr2 rfl) fr7 rfl) (by omega) (by omega)) (by omega)) (kG (fun v18 T19 M19 hT19 hI19 fr19 hG19 v18p => ?_))
    have hFm19 := hFm7.call fr19 rfl
    have tr20 := rg_5_2 hI19
    have tr21 := rg_5_3 hI19
    refine s_if_eq (t := 67) kx_94_25 (by decide) (fun hc22 => ?_) (fun hc22 => ?_)
    · replace v18p := v18p.resolve_left (by omega)
      refine s_iconst (v := 0) kx_94_67 (by decide) ?_
      refine s_istore kx_94_68 km_94_4 rfl ?_
      refine s_aload_n kx_94_70 rfl ?_
      refine s_iload_n kx_94_71 rfl ?_
      refine s_callV2 (k := f) (s1 := 2) (s2 := 0) (as := [(0, step)]) (rest := []) kx_94_72 kp_94_31 (Or.inl rfl) rfl (tkf_0 hT19 hf) ki_10 kcl_10 rfl rfl (by decide) (m_10 (d := d + 1) (step := step) hT19 hI19 hf hG19 (by omega)) (kGV (fun T24 M24 hT24 hI24 fr24 hG24 v23p => ?_))
      have hFm24 := hFm19.call fr24 rfl
      have tr25 := (fr24 5 2 rfl)
      have tr26 := (fr24 5 3 rfl)
      have tr27 := rg_5_2 hI24
      have tr28 := rg_5_3 hI24
      refine s_iload kx_94_75 rfl ?_
      exact s_iret kx_94_77 (Or.inr ⟨kq_94, by omega⟩) ⟨_, _, _, rfl, rfl, hT24, hI24, hFm24, hG24, (by omega)⟩
    · replace v18p := v18p.resolve_right (by omega)
      refine s_aload_n kx_94_28 rfl ?_
      refine r_getR (k := 4) (f := 0) (k2 := 5) kx_94_29 kp_94_12 (tk_4 hT19) kf_7_0 (by decide) (rq_4_0 hI19) ?_
      refine s_bipush (v := 44) kx_94_32 (by decide) ?_
      refine s_callV2 (k := 5) (s1 := 2) (s2 := 0) (as := [(0, 44)]) (rest := []) kx_94_34 kp_94_59 (Or.inl rfl) rfl (tk_5 hT19) ki_24 kcl_24 rfl rfl (by decide) (m_24 (d := d) (c := 44) hT19 hI19 ((fr19 5 0 rfl).trans ((fr7 5 0 rfl).trans ((fr2 5 0 rfl).trans h50)))) (kW (fun v29 M30 hI30 fr30 v29p => ?_))
      have hFm30 := hFm19.call fr30 rfl
      have tr31 := (fr30 f 2 (by rcases hf with rfl | rfl | rfl | rfl <;> rfl))
      have tr32 := rg_5_2 hI30
      have tr33 := rg_5_3 hI30
      refine s_if_eq (t := 67) kx_94_37 (by decide) (fun hc34 => ?_) (fun hc34 => ?_)
      · replace v29p := v29p.resolve_left (by omega)
        refine s_iconst (v := 0) kx_94_67 (by decide) ?_
        refine s_istore kx_94_68 km_94_4 rfl ?_
        refine s_aload_n kx_94_70 rfl ?_
        refine s_iload_n kx_94_71 rfl ?_
        refine s_callV2 (k := f) (s1 := 2) (s2 := 0) (as := [(0, step)]) (rest := []) kx_94_72 kp_94_31 (Or.inl rfl) rfl (tkf_0 hT19 hf) ki_10 kcl_10 rfl rfl (by decide) (m_10 (d := d + 1) (step := step) hT19 hI30 hf (Gm.fr hG19 fr30 rfl) (by omega)) (kGV (fun T36 M36 hT36 hI36 fr36 hG36 v35p => ?_))
        have hFm36 := hFm30.call fr36 rfl
        have tr37 := (fr36 5 2 rfl)
        have tr38 := (fr36 5 3 rfl)
        have tr39 := rg_5_2 hI36
        have tr40 := rg_5_3 hI36
        refine s_iload kx_94_75 rfl ?_
        exact s_iret kx_94_77 (Or.inr ⟨kq_94, by omega⟩) ⟨_, _, _, rfl, rfl, hT36, hI36, hFm36, hG36, (by omega)⟩
      · replace v29p := v29p.resolve_right (by omega)
        refine s_aload_n kx_94_40 rfl ?_
        refine s_aload_n kx_94_41 rfl ?_
        refine s_iload_n kx_94_42 rfl ?_
        refine s_iconst (v := 1) kx_94_43 (by decide) ?_
        refine r_add kx_94_44 ⟨by omega, by omega⟩ ?_
        refine s_callV2 (k := 4) (s1 := 3) (s2 := 0) (as := [(0, (o + 1)), rf f]) (rest := []) kx_94_45 kp_94_56 (Or.inl rfl) rfl (tk_4 hT19) ki_89 kcl_89 rfl rfl (by decide) (cC.deep ((hL (by omega)).1 (k := k + 1) hT19 hI30 ((fr30 5 0 rfl).trans ((fr19 5 0 rfl).trans ((fr7 5 0 rfl).trans ((fr2 5 0 rfl).trans h50)))) hf (Gm.fr hG19 fr30 rfl) (by omega) (by omega)) (by omega)) (kG (fun v41 T42 M42 hT42 hI42 fr42 hG42 v41p => ?_))
        have hFm42 := hFm30.call fr42 rfl
        have tr43 := rg_5_2 hI42
        have tr44 := rg_5_3 hI42
        refine s_if_eq (t := 67) kx_94_48 (by decide) (fun hc45 => ?_) (fun hc45 => ?_)
        · replace v41p := v41p.resolve_left (by omega)
          refine s_iconst (v := 0) kx_94_67 (by decide) ?_
          refine s_istore kx_94_68 km_94_4 rfl ?_
          refine s_aload_n kx_94_70 rfl ?_
          refine s_iload_n kx_94_71 rfl ?_
          refine s_callV2 (k := f) (s1 := 2) (s2 := 0) (as := [(0, step)]) (rest := []) kx_94_72 kp_94_31 (Or.inl rfl) rfl (tkf_0 hT42 hf) ki_10 kcl_10 rfl rfl (by decide) (m_10 (d := d + 1) (step := step) hT42 hI42 hf hG42 (by omega)) (kGV (fun T47 M47 hT47 hI47 fr47 hG47 v46p => ?_))
          have hFm47 := hFm42.call fr47 rfl
          have tr48 := (fr47 5 2 rfl)
          have tr49 := (fr47 5 3 rfl)
          have tr50 := rg_5_2 hI47
          have tr51 := rg_5_3 hI47
          refine s_iload kx_94_75 rfl ?_
          exact s_iret kx_94_77 (Or.inr ⟨kq_94, by omega⟩) ⟨_, _, _, rfl, rfl, hT47, hI47, hFm47, hG47, (by omega)⟩
        · replace v41p := v41p.resolve_right (by omega)
          refine s_aload_n kx_94_51 rfl ?_
          refine r_getR (k := 4) (f := 0) (k2 := 5) kx_94_52 kp_94_12 (tk_4 hT42) kf_7_0 (by decide) (rq_4_0 hI42) ?_
          refine s_bipush (v := 41) kx_94_55 (by decide) ?_
          refine s_callV2 (k := 5) (s1 := 2) (s2 := 0) (as := [(0, 41)]) (rest := []) kx_94_57 kp_94_59 (Or.inl rfl) rfl (tk_5 hT42) ki_24 kcl_24 rfl rfl (by decide) (m_24 (d := d) (c := 41) hT42 hI42 ((fr42 5 0 rfl).trans ((fr30 5 0 rfl).trans ((fr19 5 0 rfl).trans ((fr7 5 0 rfl).trans ((fr2 5 0 rfl).trans h50)))))) (kW (fun v52 M53 hI53 fr53 v52p => ?_))
          have hFm53 := hFm42.call fr53 rfl
          have tr54 := (fr53 f 2 (by rcases hf with rfl | rfl | rfl | rfl <;> rfl))
          have tr55 := rg_5_2 hI53
          have tr56 := rg_5_3 hI53
          refine s_if_eq (t := 67) kx_94_60 (by decide) (fun hc57 => ?_) (fun hc57 => ?_)
          · replace v52p := v52p.resolve_left (by omega)
            refine s_iconst (v := 0) kx_94_67 (by decide) ?_
            refine s_istore kx_94_68 km_94_4 rfl ?_
            refine s_aload_n kx_94_70 rfl ?_
            refine s_iload_n kx_94_71 rfl ?_
            refine s_callV2 (k := f) (s1 := 2) (s2 := 0) (as := [(0, step)]) (rest := []) kx_94_72 kp_94_31 (Or.inl rfl) rfl (tkf_0 hT42 hf) ki_10 kcl_10 rfl rfl (by decide) (m_10 (d := d + 1) (step := step) hT42 hI53 hf (Gm.fr hG42 fr53 rfl) (by omega)) (kGV (fun T59 M59 hT59 hI59 fr59 hG59 v58p => ?_))
            have hFm59 := hFm53.call fr59 rfl
            have tr60 := (fr59 5 2 rfl)
            have tr61 := (fr59 5 3 rfl)
            have tr62 := rg_5_2 hI59
            have tr63 := rg_5_3 hI59
            refine s_iload kx_94_75 rfl ?_
            exact s_iret kx_94_77 (Or.inr ⟨kq_94, by omega⟩) ⟨_, _, _, rfl, rfl, hT59, hI59, hFm59, hG59, (by omega)⟩
          · replace v52p := v52p.resolve_right (by omega)
            refine s_iconst (v := 1) kx_94_63 (by decide) ?_
            refine s_goto (t := 68) kx_94_64 (by decide) ?_
            refine s_istore kx_94_68 km_94_4 rfl ?_
            refine s_aload_n kx_94_70 rfl ?_
            refine s_iload_n kx_94_71 rfl ?_
            refine s_callV2 (k := f) (s1 := 2) (s2 := 0) (as := [(0, step)]) (rest := []) kx_94_72 kp_94_31 (Or.inl rfl) rfl (tkf_0 hT42 hf) ki_10 kcl_10 rfl rfl (by decide) (m_10 (d := d + 1) (step := step) hT42 hI53 hf (Gm.fr hG42 fr53 rfl) (by omega)) (kGV (fun T65 M65 hT65 hI65 fr65 hG65 v64p => ?_))
            have hFm65 := hFm53.call fr65 rfl
            have tr66 := (fr65 5 2 rfl)
            have tr67 := (fr65 5 3 rfl)
            have tr68 := rg_5_2 hI65
            have tr69 := rg_5_3 hI65
            refine s_iload kx_94_75 rfl ?_
            exact s_iret kx_94_77 (Or.inr ⟨kq_94, by omega⟩) ⟨_, _, _, rfl, rfl, hT65, hI65, hFm65, hG65, (by omega)⟩
theorem kx_95_0 : x_code k_P 95 0 = some (.aload_n 0, 1) := by decide +kernel
theorem kx_95_1 : x_code k_P 95 1 = some (.getfield 12, 3) := by decide +kernel
theorem kp_95_12 : x_pool k_P 95 12 = (1, 7, 0) := by decide +kernel
theorem kx_95_4 : x_code k_P 95 4 = some (.invokevirtual 28, 3) := by decide +kernel
theorem kp_95_28 : x_pool k_P 95 28 = (2, 26, 0) := by decide +kernel
theorem kx_95_7 : x_code k_P 95 7 = some (.aload_n 0, 1) := by decide +kernel
theorem kx_95_8 : x_code k_P 95 8 = some (.bipush 40, 2) := by decide +kernel
theorem kx_95_10 : x_code k_P 95 10 = some (.iload_n 2, 1) := by decide +kernel
theorem kx_95_11 : x_code k_P 95 11 = some (.invokevirtual 52, 3) := by decide +kernel
theorem kp_95_52 : x_pool k_P 95 52 = (2, 101, 2) := by decide +kernel
theorem kx_95_14 : x_code k_P 95 14 = some (.ifCond .eq 76, 3) := by decide +kernel
theorem kx_95_90 : x_code k_P 95 90 = some (.iconst 0, 1) := by decide +kernel
theorem kx_95_91 : x_code k_P 95 91 = some (.istore_n 3, 1) := by decide +kernel
theorem km_95_3 : 3 < x_maxL k_P 95 := by decide +kernel
theorem kx_95_92 : x_code k_P 95 92 = some (.aload_n 1, 1) := by decide +kernel
theorem kx_95_93 : x_code k_P 95 93 = some (.bipush (-20), 2) := by decide +kernel
theorem kx_95_95 : x_code k_P 95 95 = some (.invokevirtual 31, 3) := by decide +kernel
theorem kp_95_31 : x_pool k_P 95 31 = (2, 10, 1) := by decide +kernel
theorem kx_95_98 : x_code k_P 95 98 = some (.iload_n 3, 1) := by decide +kernel
theorem kx_95_99 : x_code k_P 95 99 = some (.ireturn, 1) := by decide +kernel
theorem kq_95 : x_retk k_P 95 = 2 := by decide +kernel
theorem kx_95_17 : x_code k_P 95 17 = some (.aload_n 0, 1) := by decide +kernel
theorem kx_95_18 : x_code k_P 95 18 = some (.aload_n 1, 1) := by decide +kernel
theorem kx_95_19 : x_code k_P 95 19 = some (.iload_n 2, 1) := by decide +kernel
theorem kx_95_20 : x_code k_P 95 20 = some (.iconst 1, 1) := by decide +kernel
theorem kx_95_21 : x_code k_P 95 21 = some (.iadd, 1) := by decide +kernel
theorem kx_95_22 : x_code k_P 95 22 = some (.invokevirtual 73, 3) := by decide +kernel
theorem kp_95_73 : x_pool k_P 95 73 = (2, 96, 2) := by decide +kernel
theorem ki_96 : x_mci k_P 96 = 7 := by decide +kernel
theorem kcl_96 : x_maxL k_P 96 ≤ 60 ∧ 3 ≤ x_maxL k_P 96 := by decide +kernel
theorem kx_95_25 : x_code k_P 95 25 = some (.ifCond .eq 65, 3) := by decide +kernel
theorem kx_95_28 : x_code k_P 95 28 = some (.aload_n 0, 1) := by decide +kernel
theorem kx_95_29 : x_code k_P 95 29 = some (.getfield 12, 3) := by decide +kernel
theorem kx_95_32 : x_code k_P 95 32 = some (.bipush 44, 2) := by decide +kernel
theorem kx_95_34 : x_code k_P 95 34 = some (.invokevirtual 59, 3) := by decide +kernel
theorem kp_95_59 : x_pool k_P 95 59 = (2, 24, 1) := by decide +kernel
theorem kx_95_37 : x_code k_P 95 37 = some (.ifCond .eq 53, 3) := by decide +kernel
theorem kx_95_40 : x_code k_P 95 40 = some (.aload_n 0, 1) := by decide +kernel
theorem kx_95_41 : x_code k_P 95 41 = some (.aload_n 1, 1) := by decide +kernel
theorem kx_95_42 : x_code k_P 95 42 = some (.iload_n 2, 1) := by decide +kernel
theorem kx_95_43 : x_code k_P 95 43 = some (.iconst 1, 1) := by decide +kernel
theorem kx_95_44 : x_code k_P 95 44 = some (.iadd, 1) := by decide +kernel
theorem kx_95_45 : x_code k_P 95 45 = some (.invokevirtual 56, 3) := by decide +kernel
theorem kp_95_56 : x_pool k_P 95 56 = (2, 89, 2) := by decide +kernel
theorem kx_95_48 : x_code k_P 95 48 = some (.ifCond .eq 42, 3) := by decide +kernel
theorem kx_95_51 : x_code k_P 95 51 = some (.aload_n 0, 1) := by decide +kernel
theorem kx_95_52 : x_code k_P 95 52 = some (.getfield 12, 3) := by decide +kernel
theorem kx_95_55 : x_code k_P 95 55 = some (.bipush 44, 2) := by decide +kernel
theorem kx_95_57 : x_code k_P 95 57 = some (.invokevirtual 59, 3) := by decide +kernel
theorem kx_95_60 : x_code k_P 95 60 = some (.ifCond .eq 30, 3) := by decide +kernel
theorem kx_95_63 : x_code k_P 95 63 = some (.aload_n 0, 1) := by decide +kernel
theorem kx_95_64 : x_code k_P 95 64 = some (.aload_n 1, 1) := by decide +kernel
theorem kx_95_65 : x_code k_P 95 65 = some (.iload_n 2, 1) := by decide +kernel
theorem kx_95_66 : x_code k_P 95 66 = some (.iconst 1, 1) := by decide +kernel
theorem kx_95_67 : x_code k_P 95 67 = some (.iadd, 1) := by decide +kernel
theorem kx_95_68 : x_code k_P 95 68 = some (.invokevirtual 56, 3) := by decide +kernel
theorem kx_95_71 : x_code k_P 95 71 = some (.ifCond .eq 19, 3) := by decide +kernel
theorem kx_95_74 : x_code k_P 95 74 = some (.aload_n 0, 1) := by decide +kernel
theorem kx_95_75 : x_code k_P 95 75 = some (.getfield 12, 3) := by decide +kernel
theorem kx_95_78 : x_code k_P 95 78 = some (.bipush 41, 2) := by decide +kernel
theorem kx_95_80 : x_code k_P 95 80 = some (.invokevirtual 59, 3) := by decide +kernel
theorem kx_95_83 : x_code k_P 95 83 = some (.ifCond .eq 7, 3) := by decide +kernel
theorem kx_95_86 : x_code k_P 95 86 = some (.iconst 1, 1) := by decide +kernel
theorem kx_95_87 : x_code k_P 95 87 = some (.goto 4, 3) := by decide +kernel
theorem m_95 {xs : Nat → Int} {Ln d : Nat} {T : List cK} {M : cM} (hT : TT T) (hI : Rng M) (h50 : M 5 0 = ((2 : Nat) : Int)) {f : Nat} (hf : fF f) (hG : Gm T M) {o k : Int} (hL : o < 7 → Lv xs Ln d (o + 1)) (p0 : 0 ≤ o) (p1 : 0 ≤ k) (p2 : M f 2 + k + 1 ≤ M 5 2) : cC k_P xs Ln (d + 4) 95 [rf 4, rf f, (0, o)] (T, M) (qG T M fS_par 0 (fun v M1 => (v = 1 ∧ M1 f 2 + k ≤ M1 5 2 ∧ (M1 5 3 = 0 ∨ M1 5 3 = 5 ∨ M1 f 2 + k + 1 ≤ M1 5 2)) ∨ (v = 0 ∧ M1 f 2 + k ≤ M1 5 2))) := by
  show cP k_P xs Ln (d + 4) 95 0 [(0, rf 4), (1, rf f), (2, (0, o))] [] (T, M) _
  have hFm : Fr fS_par M M := Fr.refl
  have h52 := rg_5_2 hI
  have h53 := rg_5_3 hI
  refine s_aload_n kx_95_0 rfl ?_
  refine r_getR (k := 4) (f := 0) (k2 := 5) kx_95_1 kp_95_12 (tk_4 hT) kf_7_0 (by decide) (rq_4_0 hI) ?_
  refine s_callV2 (k := 5) (s1 := 1) (s2 := 0) (as := []) (rest := []) kx_95_4 kp_95_28 (Or.inl rfl) rfl (tk_5 hT) ki_26 kcl_26 rfl rfl (by decide) (m_26 (d := d + 1) hT hI h50) (kV (fun M2 hI2 fr2 v1p => ?_))
  have hFm2 := hFm.call fr2 rfl
  have tr3 := (fr2 f 2 (by rcases hf with rfl | rfl | rfl | rfl <;> rfl))
  have tr4 := rg_5_2 hI2
  have tr5 := rg_5_3 hI2
  refine s_aload_n kx_95_7 rfl ?_
  refine s_bipush (v := 40) kx_95_8 (by decide) ?_
  refine s_iload_n kx_95_10 rfl ?_
  refine s_callV2 (k := 4) (s1 := 3) (s2 := 0) (as := [(0, o), (0, 40)]) (rest := []) kx_95_11 kp_95_52 (Or.inl rfl) rfl (tk_4 hT) ki_101 kcl_101 rfl rfl (by decide) (m_101 (d := d) (c := 40) (o := o) hT hI2 ((fr2 5 0 rfl).trans h50)) (kW (fun v6 M7 hI7 fr7 v6p => ?_))
  have hFm7 := hFm2.call fr7 rfl
  have tr8 := (fr7 f 2 (by rcases hf with rfl | rfl | rfl | rfl <;> rfl))
  have tr9 := rg_5_2 hI7
  have tr10 := rg_5_3 hI7
  refine s_if_eq (t := 90) kx_95_14 (by decide) (fun hc11 => ?_) (fun hc11 => ?_)
  · replace v6p := v6p.resolve_left (by omega)
    refine s_iconst (v := 0) kx_95_90 (by decide) ?_
    refine s_istore_n kx_95_91 km_95_3 rfl ?_
    refine s_aload_n kx_95_92 rfl ?_
    refine s_bipush (v := (-20)) kx_95_93 (by decide) ?_
    refine s_callV2 (k := f) (s1 := 2) (s2 := 0) (as := [(0, (-20))]) (rest := []) kx_95_95 kp_95_31 (Or.inl rfl) rfl (tkf_0 hT hf) ki_10 kcl_10 rfl rfl (by decide) (m_10 (d := d + 1) (step := (-20)) hT hI7 hf (Gm.fr (Gm.fr hG fr2 rfl) fr7 rfl) (by omega)) (kGV (fun T13 M13 hT13 hI13 fr13 hG13 v12p => ?_))
    have hFm13 := hFm7.call fr13 rfl
    have tr14 := (fr13 5 2 rfl)
    have tr15 := (fr13 5 3 rfl)
    have tr16 := rg_5_2 hI13
    have tr17 := rg_5_3 hI13
    refine s_iload_n kx_95_98 rfl ?_
    exact s_iret kx_95_99 (Or.inr ⟨kq_95, by omega⟩) ⟨_, _, _, rfl, rfl, hT13, hI13, hFm13, hG13, (by omega)⟩
  · replace v6p := v6p.resolve_right (by omega)
    refine s_aload_n kx_95_17 rfl ?_
    refine s_aload_n kx_95_18 rfl ?_
    refine s_iload_n kx_95_19 rfl ?_
    refine s_iconst (v := 1) kx_95_20 (by decide) ?_
    refine r_add kx_95_21 ⟨by omega, by omega⟩ ?_
    refine s_callV2 (k := 4) (s1 := 3) (s2 := 0) (as := [(0, (o + 1)), rf f]) (rest := []) kx_95_22 kp_95_73 (Or.inl rfl) rfl (tk_4 hT) ki_96 kcl_96 rfl rfl (by decide) (cC.deep ((hL (by omega)).2.1 (k := k + 1) hT hI7 ((fr7 5 0 rfl).trans ((fr2 5 0 rfl).trans h50)) hf (Gm.fr (Gm.fr hG fr2 rfl) fr7 rfl) (by omega) (by omega)) (by omega)) (kG (fun v18 T19 M19 hT19 hI19 fr19 hG19 v18p => ?_))
    have hFm19 := hFm7.call fr19 rfl
    have tr20 := rg_5_2 hI19
    have tr21 := rg_5_3 hI19
    refine s_if_eq (t := 90) kx_95_25 (by decide) (fun hc22 => ?_) (fun hc22 => ?_)
    · replace v18p := v18p.resolve_left (by omega)
      refine s_iconst (v := 0) kx_95_90 (by decide) ?_
      refine s_istore_n kx_95_91 km_95_3 rfl ?_
      refine s_aload_n kx_95_92 rfl ?_
      refine s_bipush (v := (-20)) kx_95_93 (by decide) ?_
      refine s_callV2 (k := f) (s1 := 2) (s2 := 0) (as := [(0, (-20))]) (rest := []) kx_95_95 kp_95_31 (Or.inl rfl) rfl (tkf_0 hT19 hf) ki_10 kcl_10 rfl rfl (by decide) (m_10 (d := d + 1) (step := (-20)) hT19 hI19 hf hG19 (by omega)) (kGV (fun T24 M24 hT24 hI24 fr24 hG24 v23p => ?_))
      have hFm24 := hFm19.call fr24 rfl
      have tr25 := (fr24 5 2 rfl)
      have tr26 := (fr24 5 3 rfl)
      have tr27 := rg_5_2 hI24
      have tr28 := rg_5_3 hI24
      refine s_iload_n kx_95_98 rfl ?_
      exact s_iret kx_95_99 (Or.inr ⟨kq_95, by omega⟩) ⟨_, _, _, rfl, rfl, hT24, hI24, hFm24, hG24, (by omega)⟩
    · replace v18p := v18p.resolve_right (by omega)
      refine s_aload_n kx_95_28 rfl ?_
      refine r_getR (k := 4) (f := 0) (k2 := 5) kx_95_29 kp_95_12 (tk_4 hT19) kf_7_0 (by decide) (rq_4_0 hI19) ?_
      refine s_bipush (v := 44) kx_95_32 (by decide) ?_
      refine s_callV2 (k := 5) (s1 := 2) (s2 := 0) (as := [(0, 44)]) (rest := []) kx_95_34 kp_95_59 (Or.inl rfl) rfl (tk_5 hT19) ki_24 kcl_24 rfl rfl (by decide) (m_24 (d := d) (c := 44) hT19 hI19 ((fr19 5 0 rfl).trans ((fr7 5 0 rfl).trans ((fr2 5 0 rfl).trans h50)))) (kW (fun v29 M30 hI30 fr30 v29p => ?_))
      have hFm30 := hFm19.call fr30 rfl
      have tr31 := (fr30 f 2 (by rcases hf with rfl | rfl | rfl | rfl <;> rfl))
      have tr32 := rg_5_2 hI30
      have tr33 := rg_5_3 hI30
      refine s_if_eq (t := 90) kx_95_37 (by decide) (fun hc34 => ?_) (fun hc34 => ?_)
      · replace v29p := v29p.resolve_left (by omega)
        refine s_iconst (v := 0) kx_95_90 (by decide) ?_
        refine s_istore_n kx_95_91 km_95_3 rfl ?_
        refine s_aload_n kx_95_92 rfl ?_
        refine s_bipush (v := (-20)) kx_95_93 (by decide) ?_
        refine s_callV2 (k := f) (s1 := 2) (s2 := 0) (as := [(0, (-20))]) (rest := []) kx_95_95 kp_95_31 (Or.inl rfl) rfl (tkf_0 hT19 hf) ki_10 kcl_10 rfl rfl (by decide) (m_10 (d := d + 1) (step := (-20)) hT19 hI30 hf (Gm.fr hG19 fr30 rfl) (by omega)) (kGV (fun T36 M36 hT36 hI36 fr36 hG36 v35p => ?_))
        have hFm36 := hFm30.call fr36 rfl
        have tr37 := (fr36 5 2 rfl)
        have tr38 := (fr36 5 3 rfl)
        have tr39 := rg_5_2 hI36
        have tr40 := rg_5_3 hI36
        refine s_iload_n kx_95_98 rfl ?_
        exact s_iret kx_95_99 (Or.inr ⟨kq_95, by omega⟩) ⟨_, _, _, rfl, rfl, hT36, hI36, hFm36, hG36, (by omega)⟩
      · replace v29p := v29p.resolve_right (by omega)
        refine s_aload_n kx_95_40 rfl ?_
        refine s_aload_n kx_95_41 rfl ?_
        refine s_iload_n kx_95_42 rfl ?_
        refine s_iconst (v := 1) kx_95_43 (by decide) ?_
        refine r_add kx_95_44 ⟨by omega, by omega⟩ ?_
        refine s_callV2 (k := 4) (s1 := 3) (s2 := 0) (as := [(0, (o + 1)), rf f]) (rest := []) kx_95_45 kp_95_56 (Or.inl rfl) rfl (tk_4 hT19) ki_89 kcl_89 rfl rfl (by decide) (cC.deep ((hL (by omega)).1 (k := k + 1) hT19 hI30 ((fr30 5 0 rfl).trans ((fr19 5 0 rfl).trans ((fr7 5 0 rfl).trans ((fr2 5 0 rfl).trans h50)))) hf (Gm.fr hG19 fr30 rfl) (by omega) (by omega)) (by omega)) (kG (fun v41 T42 M42 hT42 hI42 fr42 hG42 v41p => ?_))
        have hFm42 := hFm30.call fr42 rfl
        have tr43 := rg_5_2 hI42
        have tr44 := rg_5_3 hI42
        refine s_if_eq (t := 90) kx_95_48 (by decide) (fun hc45 => ?_) (fun hc45 => ?_)
        · replace v41p := v41p.resolve_left (by omega)
          refine s_iconst (v := 0) kx_95_90 (by decide) ?_
          refine s_istore_n kx_95_91 km_95_3 rfl ?_
          refine s_aload_n kx_95_92 rfl ?_
          refine s_bipush (v := (-20)) kx_95_93 (by decide) ?_
          refine s_callV2 (k := f) (s1 := 2) (s2 := 0) (as := [(0, (-20))]) (rest := []) kx_95_95 kp_95_31 (Or.inl rfl) rfl (tkf_0 hT42 hf) ki_10 kcl_10 rfl rfl (by decide) (m_10 (d := d + 1) (step := (-20)) hT42 hI42 hf hG42 (by omega)) (kGV (fun T47 M47 hT47 hI47 fr47 hG47 v46p => ?_))
          have hFm47 := hFm42.call fr47 rfl
          have tr48 := (fr47 5 2 rfl)
          have tr49 := (fr47 5 3 rfl)
          have tr50 := rg_5_2 hI47
          have tr51 := rg_5_3 hI47
          refine s_iload_n kx_95_98 rfl ?_
          exact s_iret kx_95_99 (Or.inr ⟨kq_95, by omega⟩) ⟨_, _, _, rfl, rfl, hT47, hI47, hFm47, hG47, (by omega)⟩
        · replace v41p := v41p.resolve_right (by omega)
          refine s_aload_n kx_95_51 rfl ?_
          refine r_getR (k := 4) (f := 0) (k2 := 5) kx_95_52 kp_95_12 (tk_4 hT42) kf_7_0 (by decide) (rq_4_0 hI42) ?_
          refine s_bipush (v := 44) kx_95_55 (by decide) ?_
          refine s_callV2 (k := 5) (s1 := 2) (s2 := 0) (as := [(0, 44)]) (rest := []) kx_95_57 kp_95_59 (Or.inl rfl) rfl (tk_5 hT42) ki_24 kcl_24 rfl rfl (by decide) (m_24 (d := d) (c := 44) hT42 hI42 ((fr42 5 0 rfl).trans ((fr30 5 0 rfl).trans ((fr19 5 0 rfl).trans ((fr7 5 0 rfl).trans ((fr2 5 0 rfl).trans h50)))))) (kW (fun v52 M53 hI53 fr53 v52p => ?_))
          have hFm53 := hFm42.call fr53 rfl
          have tr54 := (fr53 f 2 (by rcases hf with rfl | rfl | rfl | rfl <;> rfl))
          have tr55 := rg_5_2 hI53
          have tr56 := rg_5_3 hI53
          refine s_if_eq (t := 90) kx_95_60 (by decide) (fun hc57 => ?_) (fun hc57 => ?_)
          · replace v52p := v52p.resolve_left (by omega)
            refine s_iconst (v := 0) kx_95_90 (by decide) ?_
            refine s_istore_n kx_95_91 km_95_3 rfl ?_
            refine s_aload_n kx_95_92 rfl ?_
            refine s_bipush (v := (-20)) kx_95_93 (by decide) ?_
            refine s_callV2 (k := f) (s1 := 2) (s2 := 0) (as := [(0, (-20))]) (rest := []) kx_95_95 kp_95_31 (Or.inl rfl) rfl (tkf_0 hT42 hf) ki_10 kcl_10 rfl rfl (by decide) (m_10 (d := d + 1) (step := (-20)) hT42 hI53 hf (Gm.fr hG42 fr53 rfl) (by omega)) (kGV (fun T59 M59 hT59 hI59 fr59 hG59 v58p => ?_))
            have hFm59 := hFm53.call fr59 rfl
            have tr60 := (fr59 5 2 rfl)
            have tr61 := (fr59 5 3 rfl)
            have tr62 := rg_5_2 hI59
            have tr63 := rg_5_3 hI59
            refine s_iload_n kx_95_98 rfl ?_
            exact s_iret kx_95_99 (Or.inr ⟨kq_95, by omega⟩) ⟨_, _, _, rfl, rfl, hT59, hI59, hFm59, hG59, (by omega)⟩
          · replace v52p := v52p.resolve_right (by omega)
            refine s_aload_n kx_95_63 rfl ?_
            refine s_aload_n kx_95_64 rfl ?_
            refine s_iload_n kx_95_65 rfl ?_
            refine s_iconst (v := 1) kx_95_66 (by decide) ?_
            refine r_add kx_95_67 ⟨by omega, by omega⟩ ?_
            refine s_callV2 (k := 4) (s1 := 3) (s2 := 0) (as := [(0, (o + 1)), rf f]) (rest := []) kx_95_68 kp_95_56 (Or.inl rfl) rfl (tk_4 hT42) ki_89 kcl_89 rfl rfl (by decide) (cC.deep ((hL (by omega)).1 (k := k + 1) hT42 hI53 ((fr53 5 0 rfl).trans ((fr42 5 0 rfl).trans ((fr30 5 0 rfl).trans ((fr19 5 0 rfl).trans ((fr7 5 0 rfl).trans ((fr2 5 0 rfl).trans h50)))))) hf (Gm.fr hG42 fr53 rfl) (by omega) (by omega)) (by omega)) (kG (fun v64 T65 M65 hT65 hI65 fr65 hG65 v64p => ?_))
            have hFm65 := hFm53.call fr65 rfl
            have tr66 := rg_5_2 hI65
            have tr67 := rg_5_3 hI65
            refine s_if_eq (t := 90) kx_95_71 (by decide) (fun hc68 => ?_) (fun hc68 => ?_)
            · replace v64p := v64p.resolve_left (by omega)
              refine s_iconst (v := 0) kx_95_90 (by decide) ?_
              refine s_istore_n kx_95_91 km_95_3 rfl ?_
              refine s_aload_n kx_95_92 rfl ?_
              refine s_bipush (v := (-20)) kx_95_93 (by decide) ?_
              refine s_callV2 (k := f) (s1 := 2) (s2 := 0) (as := [(0, (-20))]) (rest := []) kx_95_95 kp_95_31 (Or.inl rfl) rfl (tkf_0 hT65 hf) ki_10 kcl_10 rfl rfl (by decide) (m_10 (d := d + 1) (step := (-20)) hT65 hI65 hf hG65 (by omega)) (kGV (fun T70 M70 hT70 hI70 fr70 hG70 v69p => ?_))
              have hFm70 := hFm65.call fr70 rfl
              have tr71 := (fr70 5 2 rfl)
              have tr72 := (fr70 5 3 rfl)
              have tr73 := rg_5_2 hI70
              have tr74 := rg_5_3 hI70
              refine s_iload_n kx_95_98 rfl ?_
              exact s_iret kx_95_99 (Or.inr ⟨kq_95, by omega⟩) ⟨_, _, _, rfl, rfl, hT70, hI70, hFm70, hG70, (by omega)⟩
            · replace v64p := v64p.resolve_right (by omega)
              refine s_aload_n kx_95_74 rfl ?_
              refine r_getR (k := 4) (f := 0) (k2 := 5) kx_95_75 kp_95_12 (tk_4 hT65) kf_7_0 (by decide) (rq_4_0 hI65) ?_
              refine s_bipush (v := 41) kx_95_78 (by decide) ?_
              refine s_callV2 (k := 5) (s1 := 2) (s2 := 0) (as := [(0, 41)]) (rest := []) kx_95_80 kp_95_59 (Or.inl rfl) rfl (tk_5 hT65) ki_24 kcl_24 rfl rfl (by decide) (m_24 (d := d) (c := 41) hT65 hI65 ((fr65 5 0 rfl).trans ((fr53 5 0 rfl).trans ((fr42 5 0 rfl).trans ((fr30 5 0 rfl).trans ((fr19 5 0 rfl).trans ((fr7 5 0 rfl).trans ((fr2 5 0 rfl).trans h50)))))))) (kW (fun v75 M76 hI76 fr76 v75p => ?_))
              have hFm76 := hFm65.call fr76 rfl
              have tr77 := (fr76 f 2 (by rcases hf with rfl | rfl | rfl | rfl <;> rfl))
              have tr78 := rg_5_2 hI76
              have tr79 := rg_5_3 hI76
              refine s_if_eq (t := 90) kx_95_83 (by decide) (fun hc80 => ?_) (fun hc80 => ?_)
              · replace v75p := v75p.resolve_left (by omega)
                refine s_iconst (v := 0) kx_95_90 (by decide) ?_
                refine s_istore_n kx_95_91 km_95_3 rfl ?_
                refine s_aload_n kx_95_92 rfl ?_
                refine s_bipush (v := (-20)) kx_95_93 (by decide) ?_
                refine s_callV2 (k := f) (s1 := 2) (s2 := 0) (as := [(0, (-20))]) (rest := []) kx_95_95 kp_95_31 (Or.inl rfl) rfl (tkf_0 hT65 hf) ki_10 kcl_10 rfl rfl (by decide) (m_10 (d := d + 1) (step := (-20)) hT65 hI76 hf (Gm.fr hG65 fr76 rfl) (by omega)) (kGV (fun T82 M82 hT82 hI82 fr82 hG82 v81p => ?_))
                have hFm82 := hFm76.call fr82 rfl
                have tr83 := (fr82 5 2 rfl)
                have tr84 := (fr82 5 3 rfl)
                have tr85 := rg_5_2 hI82
                have tr86 := rg_5_3 hI82
                refine s_iload_n kx_95_98 rfl ?_
                exact s_iret kx_95_99 (Or.inr ⟨kq_95, by omega⟩) ⟨_, _, _, rfl, rfl, hT82, hI82, hFm82, hG82, (by omega)⟩
              · replace v75p := v75p.resolve_right (by omega)
                refine s_iconst (v := 1) kx_95_86 (by decide) ?_
                refine s_goto (t := 91) kx_95_87 (by decide) ?_
                refine s_istore_n kx_95_91 km_95_3 rfl ?_
                refine s_aload_n kx_95_92 rfl ?_
                refine s_bipush (v := (-20)) kx_95_93 (by decide) ?_
                refine s_callV2 (k := f) (s1 := 2) (s2 := 0) (as := [(0, (-20))]) (rest := []) kx_95_95 kp_95_31 (Or.inl rfl) rfl (tkf_0 hT65 hf) ki_10 kcl_10 rfl rfl (by decide) (m_10 (d := d + 1) (step := (-20)) hT65 hI76 hf (Gm.fr hG65 fr76 rfl) (by omega)) (kGV (fun T88 M88 hT88 hI88 fr88 hG88 v87p => ?_))
                have hFm88 := hFm76.call fr88 rfl
                have tr89 := (fr88 5 2 rfl)
                have tr90 := (fr88 5 3 rfl)
                have tr91 := rg_5_2 hI88
                have tr92 := rg_5_3 hI88
                refine s_iload_n kx_95_98 rfl ?_
                exact s_iret kx_95_99 (Or.inr ⟨kq_95, by omega⟩) ⟨_, _, _, rfl, rfl, hT88, hI88, hFm88, hG88, (by omega)⟩
theorem kx_92_0 : x_code k_P 92 0 = some (.aload_n 0, 1) := by decide +kernel
theorem kx_92_1 : x_code k_P 92 1 = some (.getfield 12, 3) := by decide +kernel
theorem kp_92_12 : x_pool k_P 92 12 = (1, 7, 0) := by decide +kernel
theorem kx_92_4 : x_code k_P 92 4 = some (.getfield 42, 3) := by decide +kernel
theorem kp_92_42 : x_pool k_P 92 42 = (1, 3, 3) := by decide +kernel
theorem kx_92_7 : x_code k_P 92 7 = some (.iconst 3, 1) := by decide +kernel
theorem kx_92_8 : x_code k_P 92 8 = some (.if_icmp .ne 16, 3) := by decide +kernel
theorem kx_92_24 : x_code k_P 92 24 = some (.aload_n 0, 1) := by decide +kernel
theorem kx_92_25 : x_code k_P 92 25 = some (.getfield 12, 3) := by decide +kernel
theorem kx_92_28 : x_code k_P 92 28 = some (.bipush 40, 2) := by decide +kernel
theorem kx_92_30 : x_code k_P 92 30 = some (.invokevirtual 22, 3) := by decide +kernel
theorem kp_92_22 : x_pool k_P 92 22 = (2, 23, 1) := by decide +kernel
theorem kx_92_33 : x_code k_P 92 33 = some (.ifCond .eq 42, 3) := by decide +kernel
theorem kx_92_75 : x_code k_P 92 75 = some (.aload_n 0, 1) := by decide +kernel
theorem kx_92_76 : x_code k_P 92 76 = some (.getfield 12, 3) := by decide +kernel
theorem kx_92_79 : x_code k_P 92 79 = some (.getfield 42, 3) := by decide +kernel
theorem kx_92_82 : x_code k_P 92 82 = some (.iconst 1, 1) := by decide +kernel
theorem kx_92_83 : x_code k_P 92 83 = some (.if_icmp .eq 11, 3) := by decide +kernel
theorem kx_92_94 : x_code k_P 92 94 = some (.aload_n 0, 1) := by decide +kernel
theorem kx_92_95 : x_code k_P 92 95 = some (.getfield 12, 3) := by decide +kernel
theorem kx_92_98 : x_code k_P 92 98 = some (.getfield 46, 3) := by decide +kernel
theorem kp_92_46 : x_pool k_P 92 46 = (1, 3, 4) := by decide +kernel
theorem kx_92_101 : x_code k_P 92 101 = some (.lookupswitch 155 #[(113741152, 114), (308281344, 148), (438042624, 139), (446103552, 130), (527892480, 122), (659111367, 98), (672503392, 83), (777297172, 90), (781325312, 106)], 83) := by decide +kernel
theorem kx_92_256 : x_code k_P 92 256 = some (.aload_n 0, 1) := by decide +kernel
theorem kx_92_257 : x_code k_P 92 257 = some (.getfield 12, 3) := by decide +kernel
theorem kx_92_260 : x_code k_P 92 260 = some (.invokevirtual 62, 3) := by decide +kernel
theorem kp_92_62 : x_pool k_P 92 62 = (2, 21, 0) := by decide +kernel
theorem kx_92_263 : x_code k_P 92 263 = some (.ireturn, 1) := by decide +kernel
theorem kq_92 : x_retk k_P 92 = 2 := by decide +kernel
theorem kx_92_215 : x_code k_P 92 215 = some (.aload_n 0, 1) := by decide +kernel
theorem kx_92_216 : x_code k_P 92 216 = some (.aload_n 1, 1) := by decide +kernel
theorem kx_92_217 : x_code k_P 92 217 = some (.bipush (-5), 2) := by decide +kernel
theorem kx_92_219 : x_code k_P 92 219 = some (.invokevirtual 49, 3) := by decide +kernel
theorem kp_92_49 : x_pool k_P 92 49 = (2, 93, 2) := by decide +kernel
theorem ki_93 : x_mci k_P 93 = 7 := by decide +kernel
theorem kcl_93 : x_maxL k_P 93 ≤ 60 ∧ 3 ≤ x_maxL k_P 93 := by decide +kernel
theorem kx_92_222 : x_code k_P 92 222 = some (.ireturn, 1) := by decide +kernel
theorem kx_92_249 : x_code k_P 92 249 = some (.aload_n 0, 1) := by decide +kernel
theorem kx_92_250 : x_code k_P 92 250 = some (.aload_n 1, 1) := by decide +kernel
theorem kx_92_251 : x_code k_P 92 251 = some (.iload_n 2, 1) := by decide +kernel
theorem kx_92_252 : x_code k_P 92 252 = some (.invokevirtual 70, 3) := by decide +kernel
theorem kp_92_70 : x_pool k_P 92 70 = (2, 95, 2) := by decide +kernel
theorem ki_95 : x_mci k_P 95 = 7 := by decide +kernel
theorem kcl_95 : x_maxL k_P 95 ≤ 60 ∧ 3 ≤ x_maxL k_P 95 := by decide +kernel
theorem kx_92_255 : x_code k_P 92 255 = some (.ireturn, 1) := by decide +kernel
theorem kx_92_240 : x_code k_P 92 240 = some (.aload_n 0, 1) := by decide +kernel
theorem kx_92_241 : x_code k_P 92 241 = some (.aload_n 1, 1) := by decide +kernel
theorem kx_92_242 : x_code k_P 92 242 = some (.iload_n 2, 1) := by decide +kernel
theorem kx_92_243 : x_code k_P 92 243 = some (.bipush (-13), 2) := by decide +kernel
theorem kx_92_245 : x_code k_P 92 245 = some (.invokevirtual 66, 3) := by decide +kernel
theorem kp_92_66 : x_pool k_P 92 66 = (2, 94, 3) := by decide +kernel
theorem ki_94 : x_mci k_P 94 = 7 := by decide +kernel
theorem kcl_94 : x_maxL k_P 94 ≤ 60 ∧ 4 ≤ x_maxL k_P 94 := by decide +kernel
theorem kx_92_248 : x_code k_P 92 248 = some (.ireturn, 1) := by decide +kernel
theorem kx_92_231 : x_code k_P 92 231 = some (.aload_n 0, 1) := by decide +kernel
theorem kx_92_232 : x_code k_P 92 232 = some (.aload_n 1, 1) := by decide +kernel
theorem kx_92_233 : x_code k_P 92 233 = some (.iload_n 2, 1) := by decide +kernel
theorem kx_92_234 : x_code k_P 92 234 = some (.bipush (-12), 2) := by decide +kernel
theorem kx_92_236 : x_code k_P 92 236 = some (.invokevirtual 66, 3) := by decide +kernel
theorem kx_92_239 : x_code k_P 92 239 = some (.ireturn, 1) := by decide +kernel
theorem kx_92_223 : x_code k_P 92 223 = some (.aload_n 0, 1) := by decide +kernel
theorem kx_92_224 : x_code k_P 92 224 = some (.aload_n 1, 1) := by decide +kernel
theorem kx_92_225 : x_code k_P 92 225 = some (.bipush (-6), 2) := by decide +kernel
theorem kx_92_227 : x_code k_P 92 227 = some (.invokevirtual 49, 3) := by decide +kernel
theorem kx_92_230 : x_code k_P 92 230 = some (.ireturn, 1) := by decide +kernel
theorem kx_92_199 : x_code k_P 92 199 = some (.aload_n 0, 1) := by decide +kernel
theorem kx_92_200 : x_code k_P 92 200 = some (.aload_n 1, 1) := by decide +kernel
theorem kx_92_201 : x_code k_P 92 201 = some (.bipush (-3), 2) := by decide +kernel
theorem kx_92_203 : x_code k_P 92 203 = some (.invokevirtual 49, 3) := by decide +kernel
theorem kx_92_206 : x_code k_P 92 206 = some (.ireturn, 1) := by decide +kernel
theorem kx_92_184 : x_code k_P 92 184 = some (.aload_n 0, 1) := by decide +kernel
theorem kx_92_185 : x_code k_P 92 185 = some (.aload_n 1, 1) := by decide +kernel
theorem kx_92_186 : x_code k_P 92 186 = some (.iconst (-1), 1) := by decide +kernel
theorem kx_92_187 : x_code k_P 92 187 = some (.invokevirtual 49, 3) := by decide +kernel
theorem kx_92_190 : x_code k_P 92 190 = some (.ireturn, 1) := by decide +kernel
theorem kx_92_191 : x_code k_P 92 191 = some (.aload_n 0, 1) := by decide +kernel
theorem kx_92_192 : x_code k_P 92 192 = some (.aload_n 1, 1) := by decide +kernel
theorem kx_92_193 : x_code k_P 92 193 = some (.bipush (-2), 2) := by decide +kernel
theorem kx_92_195 : x_code k_P 92 195 = some (.invokevirtual 49, 3) := by decide +kernel
theorem kx_92_198 : x_code k_P 92 198 = some (.ireturn, 1) := by decide +kernel
theorem kx_92_207 : x_code k_P 92 207 = some (.aload_n 0, 1) := by decide +kernel
theorem kx_92_208 : x_code k_P 92 208 = some (.aload_n 1, 1) := by decide +kernel
theorem kx_92_209 : x_code k_P 92 209 = some (.bipush (-4), 2) := by decide +kernel
theorem kx_92_211 : x_code k_P 92 211 = some (.invokevirtual 49, 3) := by decide +kernel
theorem kx_92_214 : x_code k_P 92 214 = some (.ireturn, 1) := by decide +kernel
theorem kx_92_86 : x_code k_P 92 86 = some (.aload_n 0, 1) := by decide +kernel
theorem kx_92_87 : x_code k_P 92 87 = some (.getfield 12, 3) := by decide +kernel
theorem kx_92_90 : x_code k_P 92 90 = some (.invokevirtual 62, 3) := by decide +kernel
theorem kx_92_93 : x_code k_P 92 93 = some (.ireturn, 1) := by decide +kernel
theorem kx_92_36 : x_code k_P 92 36 = some (.aload_n 0, 1) := by decide +kernel
theorem kx_92_37 : x_code k_P 92 37 = some (.bipush 40, 2) := by decide +kernel
theorem kx_92_39 : x_code k_P 92 39 = some (.iload_n 2, 1) := by decide +kernel
theorem kx_92_40 : x_code k_P 92 40 = some (.invokevirtual 52, 3) := by decide +kernel
theorem kp_92_52 : x_pool k_P 92 52 = (2, 101, 2) := by decide +kernel
theorem kx_92_43 : x_code k_P 92 43 = some (.ifCond .eq 30, 3) := by decide +kernel
theorem kx_92_73 : x_code k_P 92 73 = some (.iconst 0, 1) := by decide +kernel
theorem kx_92_74 : x_code k_P 92 74 = some (.ireturn, 1) := by decide +kernel
theorem kx_92_46 : x_code k_P 92 46 = some (.aload_n 0, 1) := by decide +kernel
theorem kx_92_47 : x_code k_P 92 47 = some (.aload_n 1, 1) := by decide +kernel
theorem kx_92_48 : x_code k_P 92 48 = some (.iload_n 2, 1) := by decide +kernel
theorem kx_92_49 : x_code k_P 92 49 = some (.iconst 1, 1) := by decide +kernel
theorem kx_92_50 : x_code k_P 92 50 = some (.iadd, 1) := by decide +kernel
theorem kx_92_51 : x_code k_P 92 51 = some (.invokevirtual 56, 3) := by decide +kernel
theorem kp_92_56 : x_pool k_P 92 56 = (2, 89, 2) := by decide +kernel
theorem kx_92_54 : x_code k_P 92 54 = some (.ifCond .eq 19, 3) := by decide +kernel
theorem kx_92_57 : x_code k_P 92 57 = some (.aload_n 0, 1) := by decide +kernel
theorem kx_92_58 : x_code k_P 92 58 = some (.getfield 12, 3) := by decide +kernel
theorem kx_92_61 : x_code k_P 92 61 = some (.bipush 41, 2) := by decide +kernel
theorem kx_92_63 : x_code k_P 92 63 = some (.invokevirtual 59, 3) := by decide +kernel
theorem kp_92_59 : x_pool k_P 92 59 = (2, 24, 1) := by decide +kernel
theorem kx_92_66 : x_code k_P 92 66 = some (.ifCond .eq 7, 3) := by decide +kernel
theorem kx_92_69 : x_code k_P 92 69 = some (.iconst 1, 1) := by decide +kernel
theorem kx_92_70 : x_code k_P 92 70 = some (.goto 4, 3) := by decide +kernel
theorem kx_92_11 : x_code k_P 92 11 = some (.aload_n 0, 1) := by decide +kernel
theorem kx_92_12 : x_code k_P 92 12 = some (.aload_n 1, 1) := by decide +kernel
theorem kx_92_13 : x_code k_P 92 13 = some (.aload_n 0, 1) := by decide +kernel
theorem kx_92_14 : x_code k_P 92 14 = some (.getfield 12, 3) := by decide +kernel
theorem kx_92_17 : x_code k_P 92 17 = some (.getfield 46, 3) := by decide +kernel
theorem kx_92_20 : x_code k_P 92 20 = some (.invokevirtual 49, 3) := by decide +kernel
theorem kx_92_23 : x_code k_P 92 23 = some (.ireturn, 1) := by decide +kernel
theorem m_92 {xs : Nat → Int} {Ln d : Nat} {T : List cK} {M : cM} (hT : TT T) (hI : Rng M) (h50 : M 5 0 = ((2 : Nat) : Int)) {f : Nat} (hf : fF f) (hG : Gm T M) {o k : Int} (hL : o < 7 → Lv xs Ln d (o + 1)) (p0 : 0 ≤ o) (p1 : 0 ≤ k) (p2 : M f 2 + k ≤ M 5 2 ∧ (M 5 3 = 0 ∨ M 5 3 = 5 ∨ M f 2 + k + 1 ≤ M 5 2)) : cC k_P xs Ln (d + 5) 92 [rf 4, rf f, (0, o)] (T, M) (qG T M fS_par 0 (fun v M1 => (v = 1 ∧ M1 f 2 + k ≤ M1 5 2 ∧ (M1 5 3 = 0 ∨ M1 5 3 = 5 ∨ M1 f 2 + k + 1 ≤ M1 5 2)) ∨ (v = 0 ∧ M1 f 2 + k ≤ M1 5 2))) := by
  show cP k_P xs Ln (d + 5) 92 0 [(0, rf 4), (1, rf f), (2, (0, o))] [] (T, M) _
  have hFm : Fr fS_par M M := Fr.refl
  have h52 := rg_5_2 hI
  have h53 := rg_5_3 hI
  refine s_aload_n kx_92_0 rfl ?_
  refine r_getR (k := 4) (f := 0) (k2 := 5) kx_92_1 kp_92_12 (tk_4 hT) kf_7_0 (by decide) (rq_4_0 hI) ?_
  refine r_getI (k := 5) (f := 3) kx_92_4 kp_92_42 (tk_5 hT) kf_3_3 (fun _ => rfl) (rg_5_3 hI) (fun v1 v1e v1a v1b => ?_)
  refine s_iconst (v := 3) kx_92_7 (by decide) ?_
  refine s_icmp_ne (t := 24) kx_92_8 (by decide) (fun hc2 => ?_) (fun hc2 => ?_)
  · refine s_aload_n kx_92_24 rfl ?_
    refine r_getR (k := 4) (f := 0) (k2 := 5) kx_92_25 kp_92_12 (tk_4 hT) kf_7_0 (by decide) (rq_4_0 hI) ?_
    refine s_bipush (v := 40) kx_92_28 (by decide) ?_
    refine s_callV2 (k := 5) (s1 := 2) (s2 := 0) (as := [(0, 40)]) (rest := []) kx_92_30 kp_92_22 (Or.inl rfl) rfl (tk_5 hT) ki_23 kcl_23 rfl rfl (by decide) (m_23 (d := d + 4) (c := 40) hT hI) (kF (fun v3 v3p => ?_))
    refine s_if_eq (t := 75) kx_92_33 (by decide) (fun hc4 => ?_) (fun hc4 => ?_)
    · replace v3p := v3p.resolve_left (by omega)
      refine s_aload_n kx_92_75 rfl ?_
      refine r_getR (k := 4) (f := 0) (k2 := 5) kx_92_76 kp_92_12 (tk_4 hT) kf_7_0 (by decide) (rq_4_0 hI) ?_
      refine r_getK (k := 5) (f := 3) kx_92_79 kp_92_42 (tk_5 hT) kf_3_3 (fun _ => rfl) v1e ?_
      refine s_iconst (v := 1) kx_92_82 (by decide) ?_
      refine s_icmp_eq (t := 94) kx_92_83 (by decide) (fun hc5 => ?_) (fun hc5 => ?_)
      · refine s_aload_n kx_92_94 rfl ?_
        refine r_getR (k := 4) (f := 0) (k2 := 5) kx_92_95 kp_92_12 (tk_4 hT) kf_7_0 (by decide) (rq_4_0 hI) ?_
        refine r_getU (k := 5) (f := 4) kx_92_98 kp_92_46 (tk_5 hT) kf_3_4 (fun _ => rfl) (fun v6 v6e => ?_)
        refine s_lswA kx_92_101 (by decide) (by decide) ?_ (And.intro (fun hs7 => ?_) (And.intro (fun hs7 => ?_) (And.intro (fun hs7 => ?_) (And.intro (fun hs7 => ?_) (And.intro (fun hs7 => ?_) (And.intro (fun hs7 => ?_) (And.intro (fun hs7 => ?_) (And.intro (fun hs7 => ?_) (And.intro (fun hs7 => ?_) trivial)))))))))
        · show cP k_P xs Ln (d + 5) 92 256 [(0, rf 4), (1, rf f), (2, (0, o))] [] (T, M) (qG T M fS_par 0 (fun v M1 => (v = 1 ∧ M1 f 2 + k ≤ M1 5 2 ∧ (M1 5 3 = 0 ∨ M1 5 3 = 5 ∨ M1 f 2 + k + 1 ≤ M1 5 2)) ∨ (v = 0 ∧ M1 f 2 + k ≤ M1 5 2)))
          refine s_aload_n kx_92_256 rfl ?_
          refine r_getR (k := 4) (f := 0) (k2 := 5) kx_92_257 kp_92_12 (tk_4 hT) kf_7_0 (by decide) (rq_4_0 hI) ?_
          refine s_callV2 (k := 5) (s1 := 1) (s2 := 0) (as := []) (rest := []) kx_92_260 kp_92_62 (Or.inl rfl) rfl (tk_5 hT) ki_21 kcl_21 rfl rfl (by decide) (m_21 (d := d + 3) hT hI) (kW (fun v8 M9 hI9 fr9 v8p => ?_))
          have hFm9 := hFm.call fr9 rfl
          have tr10 := (fr9 5 2 rfl)
          have tr11 := (fr9 5 3 rfl)
          have tr12 := (fr9 f 2 (by rcases hf with rfl | rfl | rfl | rfl <;> rfl))
          have tr13 := rg_5_2 hI9
          have tr14 := rg_5_3 hI9
          exact s_iret kx_92_263 (Or.inr ⟨kq_92, by omega⟩) ⟨_, _, _, rfl, rfl, hT, hI9, hFm9, (Gm.fr hG fr9 rfl), (by omega)⟩
        · show cP k_P xs Ln (d + 5) 92 215 [(0, rf 4), (1, rf f), (2, (0, o))] [] (T, M) (qG T M fS_par 0 (fun v M1 => (v = 1 ∧ M1 f 2 + k ≤ M1 5 2 ∧ (M1 5 3 = 0 ∨ M1 5 3 = 5 ∨ M1 f 2 + k + 1 ≤ M1 5 2)) ∨ (v = 0 ∧ M1 f 2 + k ≤ M1 5 2)))
          refine s_aload_n kx_92_215 rfl ?_
          refine s_aload_n kx_92_216 rfl ?_
          refine s_bipush (v := (-5)) kx_92_217 (by decide) ?_
          refine s_callV2 (k := 4) (s1 := 3) (s2 := 0) (as := [(0, (-5)), rf f]) (rest := []) kx_92_219 kp_92_49 (Or.inl rfl) rfl (tk_4 hT) ki_93 kcl_93 rfl rfl (by decide) (m_93 (d := d + 1) (step := (-5)) (k := k) hT hI h50 hf hG (by omega) (by omega)) (kG (fun v15 T16 M16 hT16 hI16 fr16 hG16 v15p => ?_))
          have hFm16 := hFm.call fr16 rfl
          have tr17 := rg_5_2 hI16
          have tr18 := rg_5_3 hI16
          exact s_iret kx_92_222 (Or.inr ⟨kq_92, by omega⟩) ⟨_, _, _, rfl, rfl, hT16, hI16, hFm16, hG16, (by omega)⟩
        · show cP k_P xs Ln (d + 5) 92 249 [(0, rf 4), (1, rf f), (2, (0, o))] [] (T, M) (qG T M fS_par 0 (fun v M1 => (v = 1 ∧ M1 f 2 + k ≤ M1 5 2 ∧ (M1 5 3 = 0 ∨ M1 5 3 = 5 ∨ M1 f 2 + k + 1 ≤ M1 5 2)) ∨ (v = 0 ∧ M1 f 2 + k ≤ M1 5 2)))
          refine s_aload_n kx_92_249 rfl ?_
          refine s_aload_n kx_92_250 rfl ?_
          refine s_iload_n kx_92_251 rfl ?_
          refine s_callV2 (k := 4) (s1 := 3) (s2 := 0) (as := [(0, o), rf f]) (rest := []) kx_92_252 kp_92_70 (Or.inl rfl) rfl (tk_4 hT) ki_95 kcl_95 rfl rfl (by decide) (m_95 (d := d) (o := o) (k := k) hT hI h50 hf hG (fun h => (hL h).deep (by omega)) (by omega) (by omega) (by omega)) (kG (fun v19 T20 M20 hT20 hI20 fr20 hG20 v19p => ?_))
          have hFm20 := hFm.call fr20 rfl
          have tr21 := rg_5_2 hI20
          have tr22 := rg_5_3 hI20
          exact s_iret kx_92_255 (Or.inr ⟨kq_92, by omega⟩) ⟨_, _, _, rfl, rfl, hT20, hI20, hFm20, hG20, (by omega)⟩
        · show cP k_P xs Ln (d + 5) 92 240 [(0, rf 4), (1, rf f), (2, (0, o))] [] (T, M) (qG T M fS_par 0 (fun v M1 => (v = 1 ∧ M1 f 2 + k ≤ M1 5 2 ∧ (M1 5 3 = 0 ∨ M1 5 3 = 5 ∨ M1 f 2 + k + 1 ≤ M1 5 2)) ∨ (v = 0 ∧ M1 f 2 + k ≤ M1 5 2)))
          refine s_aload_n kx_92_240 rfl ?_
          refine s_aload_n kx_92_241 rfl ?_
          refine s_iload_n kx_92_242 rfl ?_
          refine s_bipush (v := (-13)) kx_92_243 (by decide) ?_
          refine s_callV2 (k := 4) (s1 := 4) (s2 := 0) (as := [(0, (-13)), (0, o), rf f]) (rest := []) kx_92_245 kp_92_66 (Or.inl rfl) rfl (tk_4 hT) ki_94 kcl_94 rfl rfl (by decide) (m_94 (d := d) (o := o) (step := (-13)) (k := k) hT hI h50 hf hG (fun h => (hL h).deep (by omega)) (by omega) (by omega) (by omega)) (kG (fun v23 T24 M24 hT24 hI24 fr24 hG24 v23p => ?_))
          have hFm24 := hFm.call fr24 rfl
          have tr25 := rg_5_2 hI24
          have tr26 := rg_5_3 hI24
          exact s_iret kx_92_248 (Or.inr ⟨kq_92, by omega⟩) ⟨_, _, _, rfl, rfl, hT24, hI24, hFm24, hG24, (by omega)⟩
        · show cP k_P xs Ln (d + 5) 92 231 [(0, rf 4), (1, rf f), (2, (0, o))] [] (T, M) (qG T M fS_par 0 (fun v M1 => (v = 1 ∧ M1 f 2 + k ≤ M1 5 2 ∧ (M1 5 3 = 0 ∨ M1 5 3 = 5 ∨ M1 f 2 + k + 1 ≤ M1 5 2)) ∨ (v = 0 ∧ M1 f 2 + k ≤ M1 5 2)))
          refine s_aload_n kx_92_231 rfl ?_
          refine s_aload_n kx_92_232 rfl ?_
          refine s_iload_n kx_92_233 rfl ?_
          refine s_bipush (v := (-12)) kx_92_234 (by decide) ?_
          refine s_callV2 (k := 4) (s1 := 4) (s2 := 0) (as := [(0, (-12)), (0, o), rf f]) (rest := []) kx_92_236 kp_92_66 (Or.inl rfl) rfl (tk_4 hT) ki_94 kcl_94 rfl rfl (by decide) (m_94 (d := d) (o := o) (step := (-12)) (k := k) hT hI h50 hf hG (fun h => (hL h).deep (by omega)) (by omega) (by omega) (by omega)) (kG (fun v27 T28 M28 hT28 hI28 fr28 hG28 v27p => ?_))
          have hFm28 := hFm.call fr28 rfl
          have tr29 := rg_5_2 hI28
          have tr30 := rg_5_3 hI28
          exact s_iret kx_92_239 (Or.inr ⟨kq_92, by omega⟩) ⟨_, _, _, rfl, rfl, hT28, hI28, hFm28, hG28, (by omega)⟩
        · show cP k_P xs Ln (d + 5) 92 223 [(0, rf 4), (1, rf f), (2, (0, o))] [] (T, M) (qG T M fS_par 0 (fun v M1 => (v = 1 ∧ M1 f 2 + k ≤ M1 5 2 ∧ (M1 5 3 = 0 ∨ M1 5 3 = 5 ∨ M1 f 2 + k + 1 ≤ M1 5 2)) ∨ (v = 0 ∧ M1 f 2 + k ≤ M1 5 2)))
          refine s_aload_n kx_92_223 rfl ?_
          refine s_aload_n kx_92_224 rfl ?_
          refine s_bipush (v := (-6)) kx_92_225 (by decide) ?_
          refine s_callV2 (k := 4) (s1 := 3) (s2 := 0) (as := [(0, (-6)), rf f]) (rest := []) kx_92_227 kp_92_49 (Or.inl rfl) rfl (tk_4 hT) ki_93 kcl_93 rfl rfl (by decide) (m_93 (d := d + 1) (step := (-6)) (k := k) hT hI h50 hf hG (by omega) (by omega)) (kG (fun v31 T32 M32 hT32 hI32 fr32 hG32 v31p => ?_))
          have hFm32 := hFm.call fr32 rfl
          have tr33 := rg_5_2 hI32
          have tr34 := rg_5_3 hI32
          exact s_iret kx_92_230 (Or.inr ⟨kq_92, by omega⟩) ⟨_, _, _, rfl, rfl, hT32, hI32, hFm32, hG32, (by omega)⟩
        · show cP k_P xs Ln (d + 5) 92 199 [(0, rf 4), (1, rf f), (2, (0, o))] [] (T, M) (qG T M fS_par 0 (fun v M1 => (v = 1 ∧ M1 f 2 + k ≤ M1 5 2 ∧ (M1 5 3 = 0 ∨ M1 5 3 = 5 ∨ M1 f 2 + k + 1 ≤ M1 5 2)) ∨ (v = 0 ∧ M1 f 2 + k ≤ M1 5 2)))
          refine s_aload_n kx_92_199 rfl ?_
          refine s_aload_n kx_92_200 rfl ?_
          refine s_bipush (v := (-3)) kx_92_201 (by decide) ?_
          refine s_callV2 (k := 4) (s1 := 3) (s2 := 0) (as := [(0, (-3)), rf f]) (rest := []) kx_92_203 kp_92_49 (Or.inl rfl) rfl (tk_4 hT) ki_93 kcl_93 rfl rfl (by decide) (m_93 (d := d + 1) (step := (-3)) (k := k) hT hI h50 hf hG (by omega) (by omega)) (kG (fun v35 T36 M36 hT36 hI36 fr36 hG36 v35p => ?_))
          have hFm36 := hFm.call fr36 rfl
          have tr37 := rg_5_2 hI36
          have tr38 := rg_5_3 hI36
          exact s_iret kx_92_206 (Or.inr ⟨kq_92, by omega⟩) ⟨_, _, _, rfl, rfl, hT36, hI36, hFm36, hG36, (by omega)⟩
        · show cP k_P xs Ln (d + 5) 92 184 [(0, rf 4), (1, rf f), (2, (0, o))] [] (T, M) (qG T M fS_par 0 (fun v M1 => (v = 1 ∧ M1 f 2 + k ≤ M1 5 2 ∧ (M1 5 3 = 0 ∨ M1 5 3 = 5 ∨ M1 f 2 + k + 1 ≤ M1 5 2)) ∨ (v = 0 ∧ M1 f 2 + k ≤ M1 5 2)))
          refine s_aload_n kx_92_184 rfl ?_
          refine s_aload_n kx_92_185 rfl ?_
          refine s_iconst (v := (-1)) kx_92_186 (by decide) ?_
          refine s_callV2 (k := 4) (s1 := 3) (s2 := 0) (as := [(0, (-1)), rf f]) (rest := []) kx_92_187 kp_92_49 (Or.inl rfl) rfl (tk_4 hT) ki_93 kcl_93 rfl rfl (by decide) (m_93 (d := d + 1) (step := (-1)) (k := k) hT hI h50 hf hG (by omega) (by omega)) (kG (fun v39 T40 M40 hT40 hI40 fr40 hG40 v39p => ?_))
          have hFm40 := hFm.call fr40 rfl
          have tr41 := rg_5_2 hI40
          have tr42 := rg_5_3 hI40
          exact s_iret kx_92_190 (Or.inr ⟨kq_92, by omega⟩) ⟨_, _, _, rfl, rfl, hT40, hI40, hFm40, hG40, (by omega)⟩
        · show cP k_P xs Ln (d + 5) 92 191 [(0, rf 4), (1, rf f), (2, (0, o))] [] (T, M) (qG T M fS_par 0 (fun v M1 => (v = 1 ∧ M1 f 2 + k ≤ M1 5 2 ∧ (M1 5 3 = 0 ∨ M1 5 3 = 5 ∨ M1 f 2 + k + 1 ≤ M1 5 2)) ∨ (v = 0 ∧ M1 f 2 + k ≤ M1 5 2)))
          refine s_aload_n kx_92_191 rfl ?_
          refine s_aload_n kx_92_192 rfl ?_
          refine s_bipush (v := (-2)) kx_92_193 (by decide) ?_
          refine s_callV2 (k := 4) (s1 := 3) (s2 := 0) (as := [(0, (-2)), rf f]) (rest := []) kx_92_195 kp_92_49 (Or.inl rfl) rfl (tk_4 hT) ki_93 kcl_93 rfl rfl (by decide) (m_93 (d := d + 1) (step := (-2)) (k := k) hT hI h50 hf hG (by omega) (by omega)) (kG (fun v43 T44 M44 hT44 hI44 fr44 hG44 v43p => ?_))
          have hFm44 := hFm.call fr44 rfl
          have tr45 := rg_5_2 hI44
          have tr46 := rg_5_3 hI44
          exact s_iret kx_92_198 (Or.inr ⟨kq_92, by omega⟩) ⟨_, _, _, rfl, rfl, hT44, hI44, hFm44, hG44, (by omega)⟩
        · show cP k_P xs Ln (d + 5) 92 207 [(0, rf 4), (1, rf f), (2, (0, o))] [] (T, M) (qG T M fS_par 0 (fun v M1 => (v = 1 ∧ M1 f 2 + k ≤ M1 5 2 ∧ (M1 5 3 = 0 ∨ M1 5 3 = 5 ∨ M1 f 2 + k + 1 ≤ M1 5 2)) ∨ (v = 0 ∧ M1 f 2 + k ≤ M1 5 2)))
          refine s_aload_n kx_92_207 rfl ?_
          refine s_aload_n kx_92_208 rfl ?_
          refine s_bipush (v := (-4)) kx_92_209 (by decide) ?_
          refine s_callV2 (k := 4) (s1 := 3) (s2 := 0) (as := [(0, (-4)), rf f]) (rest := []) kx_92_211 kp_92_49 (Or.inl rfl) rfl (tk_4 hT) ki_93 kcl_93 rfl rfl (by decide) (m_93 (d := d + 1) (step := (-4)) (k := k) hT hI h50 hf hG (by omega) (by omega)) (kG (fun v47 T48 M48 hT48 hI48 fr48 hG48 v47p => ?_))
          have hFm48 := hFm.call fr48 rfl
          have tr49 := rg_5_2 hI48
          have tr50 := rg_5_3 hI48
          exact s_iret kx_92_214 (Or.inr ⟨kq_92, by omega⟩) ⟨_, _, _, rfl, rfl, hT48, hI48, hFm48, hG48, (by omega)⟩
      · refine s_aload_n kx_92_86 rfl ?_
        refine r_getR (k := 4) (f := 0) (k2 := 5) kx_92_87 kp_92_12 (tk_4 hT) kf_7_0 (by decide) (rq_4_0 hI) ?_
        refine s_callV2 (k := 5) (s1 := 1) (s2 := 0) (as := []) (rest := []) kx_92_90 kp_92_62 (Or.inl rfl) rfl (tk_5 hT) ki_21 kcl_21 rfl rfl (by decide) (m_21 (d := d + 3) hT hI) (kW (fun v51 M52 hI52 fr52 v51p => ?_))
        have hFm52 := hFm.call fr52 rfl
        have tr53 := (fr52 5 2 rfl)
        have tr54 := (fr52 5 3 rfl)
        have tr55 := (fr52 f 2 (by rcases hf with rfl | rfl | rfl | rfl <;> rfl))
        have tr56 := rg_5_2 hI52
        have tr57 := rg_5_3 hI52
        exact s_iret kx_92_93 (Or.inr ⟨kq_92, by omega⟩) ⟨_, _, _, rfl, rfl, hT, hI52, hFm52, (Gm.fr hG fr52 rfl), (by omega)⟩
    · replace v3p := v3p.resolve_right (by omega)
      refine s_aload_n kx_92_36 rfl ?_
      refine s_bipush (v := 40) kx_92_37 (by decide) ?_
      refine s_iload_n kx_92_39 rfl ?_
      refine s_callV2 (k := 4) (s1 := 3) (s2 := 0) (as := [(0, o), (0, 40)]) (rest := []) kx_92_40 kp_92_52 (Or.inl rfl) rfl (tk_4 hT) ki_101 kcl_101 rfl rfl (by decide) (m_101 (d := d + 1) (c := 40) (o := o) hT hI h50) (kW (fun v58 M59 hI59 fr59 v58p => ?_))
      have hFm59 := hFm.call fr59 rfl
      have tr60 := (fr59 f 2 (by rcases hf with rfl | rfl | rfl | rfl <;> rfl))
      have tr61 := rg_5_2 hI59
      have tr62 := rg_5_3 hI59
      refine s_if_eq (t := 73) kx_92_43 (by decide) (fun hc63 => ?_) (fun hc63 => ?_)
      · replace v58p := v58p.resolve_left (by omega)
        refine s_iconst (v := 0) kx_92_73 (by decide) ?_
        exact s_iret kx_92_74 (Or.inr ⟨kq_92, by omega⟩) ⟨_, _, _, rfl, rfl, hT, hI59, hFm59, (Gm.fr hG fr59 rfl), (by omega)⟩
      · replace v58p := v58p.resolve_right (by omega)
        refine s_aload_n kx_92_46 rfl ?_
        refine s_aload_n kx_92_47 rfl ?_
        refine s_iload_n kx_92_48 rfl ?_
        refine s_iconst (v := 1) kx_92_49 (by decide) ?_
        refine r_add kx_92_50 ⟨by omega, by omega⟩ ?_
        refine s_callV2 (k := 4) (s1 := 3) (s2 := 0) (as := [(0, (o + 1)), rf f]) (rest := []) kx_92_51 kp_92_56 (Or.inl rfl) rfl (tk_4 hT) ki_89 kcl_89 rfl rfl (by decide) (cC.deep ((hL (by omega)).1 (k := k) hT hI59 ((fr59 5 0 rfl).trans h50) hf (Gm.fr hG fr59 rfl) (by omega) (by omega)) (by omega)) (kG (fun v64 T65 M65 hT65 hI65 fr65 hG65 v64p => ?_))
        have hFm65 := hFm59.call fr65 rfl
        have tr66 := rg_5_2 hI65
        have tr67 := rg_5_3 hI65
        refine s_if_eq (t := 73) kx_92_54 (by decide) (fun hc68 => ?_) (fun hc68 => ?_)
        · replace v64p := v64p.resolve_left (by omega)
          refine s_iconst (v := 0) kx_92_73 (by decide) ?_
          exact s_iret kx_92_74 (Or.inr ⟨kq_92, by omega⟩) ⟨_, _, _, rfl, rfl, hT65, hI65, hFm65, hG65, (by omega)⟩
        · replace v64p := v64p.resolve_right (by omega)
          refine s_aload_n kx_92_57 rfl ?_
          refine r_getR (k := 4) (f := 0) (k2 := 5) kx_92_58 kp_92_12 (tk_4 hT65) kf_7_0 (by decide) (rq_4_0 hI65) ?_
          refine s_bipush (v := 41) kx_92_61 (by decide) ?_
          refine s_callV2 (k := 5) (s1 := 2) (s2 := 0) (as := [(0, 41)]) (rest := []) kx_92_63 kp_92_59 (Or.inl rfl) rfl (tk_5 hT65) ki_24 kcl_24 rfl rfl (by decide) (m_24 (d := d + 1) (c := 41) hT65 hI65 ((fr65 5 0 rfl).trans ((fr59 5 0 rfl).trans h50))) (kW (fun v69 M70 hI70 fr70 v69p => ?_))
          have hFm70 := hFm65.call fr70 rfl
          have tr71 := (fr70 f 2 (by rcases hf with rfl | rfl | rfl | rfl <;> rfl))
          have tr72 := rg_5_2 hI70
          have tr73 := rg_5_3 hI70
          refine s_if_eq (t := 73) kx_92_66 (by decide) (fun hc74 => ?_) (fun hc74 => ?_)
          · replace v69p := v69p.resolve_left (by omega)
            refine s_iconst (v := 0) kx_92_73 (by decide) ?_
            exact s_iret kx_92_74 (Or.inr ⟨kq_92, by omega⟩) ⟨_, _, _, rfl, rfl, hT65, hI70, hFm70, (Gm.fr hG65 fr70 rfl), (by omega)⟩
          · replace v69p := v69p.resolve_right (by omega)
            refine s_iconst (v := 1) kx_92_69 (by decide) ?_
            refine s_goto (t := 74) kx_92_70 (by decide) ?_
            exact s_iret kx_92_74 (Or.inr ⟨kq_92, by omega⟩) ⟨_, _, _, rfl, rfl, hT65, hI70, hFm70, (Gm.fr hG65 fr70 rfl), (by omega)⟩
  · refine s_aload_n kx_92_11 rfl ?_
    refine s_aload_n kx_92_12 rfl ?_
    refine s_aload_n kx_92_13 rfl ?_
    refine r_getR (k := 4) (f := 0) (k2 := 5) kx_92_14 kp_92_12 (tk_4 hT) kf_7_0 (by decide) (rq_4_0 hI) ?_
    refine r_getU (k := 5) (f := 4) kx_92_17 kp_92_46 (tk_5 hT) kf_3_4 (fun _ => rfl) (fun v75 v75e => ?_)
    refine s_callV2 (k := 4) (s1 := 3) (s2 := 0) (as := [(0, v75), rf f]) (rest := []) kx_92_20 kp_92_49 (Or.inl rfl) rfl (tk_4 hT) ki_93 kcl_93 rfl rfl (by decide) (m_93 (d := d + 1) (step := v75) (k := k) hT hI h50 hf hG (by omega) (by omega)) (kG (fun v76 T77 M77 hT77 hI77 fr77 hG77 v76p => ?_))
    have hFm77 := hFm.call fr77 rfl
    have tr78 := rg_5_2 hI77
    have tr79 := rg_5_3 hI77
    exact s_iret kx_92_23 (Or.inr ⟨kq_92, by omega⟩) ⟨_, _, _, rfl, rfl, hT77, hI77, hFm77, hG77, (by omega)⟩
theorem kx_90_0 : x_code k_P 90 0 = some (.aload_n 0, 1) := by decide +kernel
theorem kx_90_1 : x_code k_P 90 1 = some (.aload_n 1, 1) := by decide +kernel
theorem kx_90_2 : x_code k_P 90 2 = some (.iload_n 2, 1) := by decide +kernel
theorem kx_90_3 : x_code k_P 90 3 = some (.invokevirtual 35, 3) := by decide +kernel
theorem kp_90_35 : x_pool k_P 90 35 = (2, 92, 2) := by decide +kernel
theorem ki_92 : x_mci k_P 92 = 7 := by decide +kernel
theorem kcl_92 : x_maxL k_P 92 ≤ 60 ∧ 3 ≤ x_maxL k_P 92 := by decide +kernel
theorem kx_90_6 : x_code k_P 90 6 = some (.ifCond .ne 5, 3) := by decide +kernel
theorem kx_90_11 : x_code k_P 90 11 = some (.iconst 0, 1) := by decide +kernel
theorem kx_90_12 : x_code k_P 90 12 = some (.istore_n 3, 1) := by decide +kernel
theorem km_90_3 : 3 < x_maxL k_P 90 := by decide +kernel
theorem kx_90_13 : x_code k_P 90 13 = some (.iload_n 3, 1) := by decide +kernel
theorem kx_90_14 : x_code k_P 90 14 = some (.sipush 1600, 3) := by decide +kernel
theorem kx_90_17 : x_code k_P 90 17 = some (.if_icmp .ge 46, 3) := by decide +kernel
theorem kx_90_63 : x_code k_P 90 63 = some (.iconst 1, 1) := by decide +kernel
theorem kx_90_64 : x_code k_P 90 64 = some (.ireturn, 1) := by decide +kernel
theorem kq_90 : x_retk k_P 90 = 2 := by decide +kernel
theorem kx_90_20 : x_code k_P 90 20 = some (.aload_n 0, 1) := by decide +kernel
theorem kx_90_21 : x_code k_P 90 21 = some (.invokevirtual 38, 3) := by decide +kernel
theorem kp_90_38 : x_pool k_P 90 38 = (2, 91, 0) := by decide +kernel
theorem ki_91 : x_mci k_P 91 = 7 := by decide +kernel
theorem kcl_91 : x_maxL k_P 91 ≤ 60 ∧ 1 ≤ x_maxL k_P 91 := by decide +kernel
theorem kx_90_24 : x_code k_P 90 24 = some (.ifCond .eq 39, 3) := by decide +kernel
theorem kx_90_27 : x_code k_P 90 27 = some (.aload_n 0, 1) := by decide +kernel
theorem kx_90_28 : x_code k_P 90 28 = some (.invokevirtual 38, 3) := by decide +kernel
theorem kx_90_31 : x_code k_P 90 31 = some (.istore 4, 2) := by decide +kernel
theorem km_90_4 : 4 < x_maxL k_P 90 := by decide +kernel
theorem kx_90_33 : x_code k_P 90 33 = some (.aload_n 0, 1) := by decide +kernel
theorem kx_90_34 : x_code k_P 90 34 = some (.getfield 12, 3) := by decide +kernel
theorem kp_90_12 : x_pool k_P 90 12 = (1, 7, 0) := by decide +kernel
theorem kx_90_37 : x_code k_P 90 37 = some (.invokevirtual 28, 3) := by decide +kernel
theorem kp_90_28 : x_pool k_P 90 28 = (2, 26, 0) := by decide +kernel
theorem kx_90_40 : x_code k_P 90 40 = some (.aload_n 0, 1) := by decide +kernel
theorem kx_90_41 : x_code k_P 90 41 = some (.aload_n 1, 1) := by decide +kernel
theorem kx_90_42 : x_code k_P 90 42 = some (.iload_n 2, 1) := by decide +kernel
theorem kx_90_43 : x_code k_P 90 43 = some (.invokevirtual 35, 3) := by decide +kernel
theorem kx_90_46 : x_code k_P 90 46 = some (.ifCond .ne 5, 3) := by decide +kernel
theorem kx_90_51 : x_code k_P 90 51 = some (.aload_n 1, 1) := by decide +kernel
theorem kx_90_52 : x_code k_P 90 52 = some (.iload 4, 2) := by decide +kernel
theorem kx_90_54 : x_code k_P 90 54 = some (.invokevirtual 31, 3) := by decide +kernel
theorem kp_90_31 : x_pool k_P 90 31 = (2, 10, 1) := by decide +kernel
theorem kx_90_57 : x_code k_P 90 57 = some (.iinc 3 1, 3) := by decide +kernel
theorem kx_90_60 : x_code k_P 90 60 = some (.goto (-47), 3) := by decide +kernel
theorem kx_90_49 : x_code k_P 90 49 = some (.iconst 0, 1) := by decide +kernel
theorem kx_90_50 : x_code k_P 90 50 = some (.ireturn, 1) := by decide +kernel
theorem kx_90_9 : x_code k_P 90 9 = some (.iconst 0, 1) := by decide +kernel
theorem kx_90_10 : x_code k_P 90 10 = some (.ireturn, 1) := by decide +kernel
def fS_90_l13 : List (Nat × Nat) := [(114, 99999), (19, 1), (19, 2), (21, 99999), (22, 1), (22, 2), (24, 99999), (36, 1), (36, 2), (38, 99999), (39, 1), (39, 2), (41, 99999), (5, 2), (5, 3), (5, 4), (5, 5), (5, 6), (5, 7)]
theorem m_90 {xs : Nat → Int} {Ln d : Nat} {T : List cK} {M : cM} (hT : TT T) (hI : Rng M) (h50 : M 5 0 = ((2 : Nat) : Int)) {f : Nat} (hf : fF f) (hG : Gm T M) {o k : Int} (hL : o < 7 → Lv xs Ln d (o + 1)) (p0 : 0 ≤ o) (p1 : 0 ≤ k) (p2 : M f 2 + k ≤ M 5 2 ∧ (M 5 3 = 0 ∨ M 5 3 = 5 ∨ M f 2 + k + 1 ≤ M 5 2)) : cC k_P xs Ln (d + 6) 90 [rf 4, rf f, (0, o)] (T, M) (qG T M fS_par 0 (fun v M1 => (v = 1 ∧ M1 f 2 + k ≤ M1 5 2 ∧ (M1 5 3 = 0 ∨ M1 5 3 = 5 ∨ M1 f 2 + k + 1 ≤ M1 5 2)) ∨ (v = 0 ∧ M1 f 2 + k ≤ M1 5 2))) := by
  show cP k_P xs Ln (d + 6) 90 0 [(0, rf 4), (1, rf f), (2, (0, o))] [] (T, M) _
  have hFm : Fr fS_par M M := Fr.refl
  have h52 := rg_5_2 hI
  have h53 := rg_5_3 hI
  refine s_aload_n kx_90_0 rfl ?_
  refine s_aload_n kx_90_1 rfl ?_
  refine s_iload_n kx_90_2 rfl ?_
  refine s_callV2 (k := 4) (s1 := 3) (s2 := 0) (as := [(0, o), rf f]) (rest := []) kx_90_3 kp_90_35 (Or.inl rfl) rfl (tk_4 hT) ki_92 kcl_92 rfl rfl (by decide) (m_92 (d := d) (o := o) (k := k) hT hI h50 hf hG (fun h => (hL h).deep (by omega)) (by omega) (by omega) (by omega)) (kG (fun v1 T2 M2 hT2 hI2 fr2 hG2 v1p => ?_))
  have hFm2 := hFm.call fr2 rfl
  have tr3 := rg_5_2 hI2
  have tr4 := rg_5_3 hI2
  refine s_if_ne (t := 11) kx_90_6 (by decide) (fun hc5 => ?_) (fun hc5 => ?_)
  · replace v1p := v1p.resolve_right (by omega)
    refine s_iconst (v := 0) kx_90_11 (by decide) ?_
    refine s_istore_n kx_90_12 km_90_3 rfl ?_
    have key8 : ∀ n9 : Nat, ∀ (x3_6 : Int), ∀ T7 : List cK, TT T7 → ∀ M7 : cM, Rng M7 → Fr fS_par M M7 → Fr fS_90_l13 M2 M7 → Gm T7 M7 → (0 ≤ x3_6) → (M7 f 2 + k ≤ M7 5 2) → ((M7 5 3 = 0 ∨ M7 5 3 = 5 ∨ M7 f 2 + k + 1 ≤ M7 5 2)) → (2147483647 - x3_6).toNat < n9 → cP k_P xs Ln (d + 6) 90 13 [(0, rf 4), (1, rf f), (2, (0, o)), (3, (0, x3_6))] [] (T7, M7) (qG T M fS_par 0 (fun v M1 => (v = 1 ∧ M1 f 2 + k ≤ M1 5 2 ∧ (M1 5 3 = 0 ∨ M1 5 3 = 5 ∨ M1 f 2 + k + 1 ≤ M1 5 2)) ∨ (v = 0 ∧ M1 f 2 + k ≤ M1 5 2))) := by
      intro n9
      induction n9 with
      | zero => intro x3_6 T7 hT7 M7 hI7 hFm7 fl7 hG7 i10 i11 i12 hm13; exact absurd hm13 (Nat.not_lt_zero _)
      | succ n9 ih14 =>
        intro x3_6 T7 hT7 M7 hI7 hFm7 fl7 hG7 i10 i11 i12 hm13
        have tr15 := rg_5_2 hI7
        have tr16 := rg_5_3 hI7
        refine s_iload_n kx_90_13 rfl ?_
        refine s_sipush (v := 1600) kx_90_14 (by decide) ?_
        refine s_icmp_ge (t := 63) kx_90_17 (by decide) (fun hc17 => ?_) (fun hc17 => ?_)
        · refine s_iconst (v := 1) kx_90_63 (by decide) ?_
          exact s_iret kx_90_64 (Or.inr ⟨kq_90, by omega⟩) ⟨_, _, _, rfl, rfl, hT7, hI7, hFm7, hG7, (by omega)⟩
        · refine s_aload_n kx_90_20 rfl ?_
          refine s_callV2 (k := 4) (s1 := 1) (s2 := 0) (as := []) (rest := []) kx_90_21 kp_90_38 (Or.inl rfl) rfl (tk_4 hT7) ki_91 kcl_91 rfl rfl (by decide) (m_91 (d := d + 4) hT7 hI7) (kF (fun v18 v18p => ?_))
          refine s_if_eq (t := 63) kx_90_24 (by decide) (fun hc19 => ?_) (fun hc19 => ?_)
          · replace v18p := v18p.resolve_left (by omega)
            refine s_iconst (v := 1) kx_90_63 (by decide) ?_
            exact s_iret kx_90_64 (Or.inr ⟨kq_90, by omega⟩) ⟨_, _, _, rfl, rfl, hT7, hI7, hFm7, hG7, (by omega)⟩
          · replace v18p := v18p.resolve_right (by omega)
            refine s_aload_n kx_90_27 rfl ?_
            refine s_callV2 (k := 4) (s1 := 1) (s2 := 0) (as := []) (rest := []) kx_90_28 kp_90_38 (Or.inl rfl) rfl (tk_4 hT7) ki_91 kcl_91 rfl rfl (by decide) (m_91 (d := d + 4) hT7 hI7) (kF (fun v20 v20p => ?_))
            refine s_istore kx_90_31 km_90_4 rfl ?_
            refine s_aload_n kx_90_33 rfl ?_
            refine r_getR (k := 4) (f := 0) (k2 := 5) kx_90_34 kp_90_12 (tk_4 hT7) kf_7_0 (by decide) (rq_4_0 hI7) ?_
            refine s_callV2 (k := 5) (s1 := 1) (s2 := 0) (as := []) (rest := []) kx_90_37 kp_90_28 (Or.inl rfl) rfl (tk_5 hT7) ki_26 kcl_26 rfl rfl (by decide) (m_26 (d := d + 3) hT7 hI7 ((fl7 5 0 rfl).trans ((fr2 5 0 rfl).trans h50))) (kV (fun M22 hI22 fr22 v21p => ?_))
            have hFm22 := hFm7.call fr22 rfl
            have hFl1322 := fl7.call fr22 rfl
            have tr23 := (fr22 f 2 (by rcases hf with rfl | rfl | rfl | rfl <;> rfl))
            have tr24 := rg_5_2 hI22
            have tr25 := rg_5_3 hI22
            refine s_aload_n kx_90_40 rfl ?_
            refine s_aload_n kx_90_41 rfl ?_
            refine s_iload_n kx_90_42 rfl ?_
            refine s_callV2 (k := 4) (s1 := 3) (s2 := 0) (as := [(0, o), rf f]) (rest := []) kx_90_43 kp_90_35 (Or.inl rfl) rfl (tk_4 hT7) ki_92 kcl_92 rfl rfl (by decide) (m_92 (d := d) (o := o) (k := k + 1) hT7 hI22 ((fr22 5 0 rfl).trans ((fl7 5 0 rfl).trans ((fr2 5 0 rfl).trans h50))) hf (Gm.fr hG7 fr22 rfl) (fun h => (hL h).deep (by omega)) (by omega) (by omega) (by omega)) (kG (fun v26 T27 M27 hT27 hI27 fr27 hG27 v26p => ?_))
            have hFm27 := hFm22.call fr27 rfl
            have hFl1327 := hFl1322.call fr27 rfl
            have tr28 := rg_5_2 hI27
            have tr29 := rg_5_3 hI27
            refine s_if_ne (t := 51) kx_90_46 (by decide) (fun hc30 => ?_) (fun hc30 => ?_)
            · replace v26p := v26p.resolve_right (by omega)
              refine s_aload_n kx_90_51 rfl ?_
              refine s_iload kx_90_52 rfl ?_
              refine s_callV2 (k := f) (s1 := 2) (s2 := 0) (as := [(0, v20)]) (rest := []) kx_90_54 kp_90_31 (Or.inl rfl) rfl (tkf_0 hT27 hf) ki_10 kcl_10 rfl rfl (by decide) (m_10 (d := d + 3) (step := v20) hT27 hI27 hf hG27 (by omega)) (kGV (fun T32 M32 hT32 hI32 fr32 hG32 v31p => ?_))
              have hFm32 := hFm27.call fr32 rfl
              have hFl1332 := hFl1327.call fr32 rfl
              have tr33 := (fr32 5 2 rfl)
              have tr34 := (fr32 5 3 rfl)
              have tr35 := rg_5_2 hI32
              have tr36 := rg_5_3 hI32
              refine r_iinc kx_90_57 rfl km_90_3 (by decide) ⟨by omega, by omega⟩ rfl ?_
              refine s_goto (t := 13) kx_90_60 (by decide) ?_
              exact cP.wk (lS1 rfl (lS1 rfl (lS1 rfl (lS1 rfl lS0)))) (ih14 (x3_6 + 1) T32 hT32 M32 hI32 hFm32 hFl1332 hG32 (by omega) (by omega) (by omega) (by omega))
            · replace v26p := v26p.resolve_left (by omega)
              refine s_iconst (v := 0) kx_90_49 (by decide) ?_
              exact s_iret kx_90_50 (Or.inr ⟨kq_90, by omega⟩) ⟨_, _, _, rfl, rfl, hT27, hI27, hFm27, hG27, (by omega)⟩
    exact cP.wk (lS1 rfl (lS1 rfl (lS1 rfl (lS1 rfl lS0)))) (key8 _ 0 T2 hT2 M2 hI2 hFm2 Fr.refl hG2 (by omega) (by omega) (by omega) (Nat.lt_succ_self _))
  · replace v1p := v1p.resolve_left (by omega)
    refine s_iconst (v := 0) kx_90_9 (by decide) ?_
    exact s_iret kx_90_10 (Or.inr ⟨kq_90, by omega⟩) ⟨_, _, _, rfl, rfl, hT2, hI2, hFm2, hG2, (by omega)⟩
theorem kx_89_0 : x_code k_P 89 0 = some (.aload_n 0, 1) := by decide +kernel
theorem kx_89_1 : x_code k_P 89 1 = some (.aload_n 1, 1) := by decide +kernel
theorem kx_89_2 : x_code k_P 89 2 = some (.iload_n 2, 1) := by decide +kernel
theorem kx_89_3 : x_code k_P 89 3 = some (.invokevirtual 18, 3) := by decide +kernel
theorem kp_89_18 : x_pool k_P 89 18 = (2, 90, 2) := by decide +kernel
theorem ki_90 : x_mci k_P 90 = 7 := by decide +kernel
theorem kcl_90 : x_maxL k_P 90 ≤ 60 ∧ 3 ≤ x_maxL k_P 90 := by decide +kernel
theorem kx_89_6 : x_code k_P 89 6 = some (.ifCond .ne 5, 3) := by decide +kernel
theorem kx_89_11 : x_code k_P 89 11 = some (.iconst 0, 1) := by decide +kernel
theorem kx_89_12 : x_code k_P 89 12 = some (.istore_n 3, 1) := by decide +kernel
theorem km_89_3 : 3 < x_maxL k_P 89 := by decide +kernel
theorem kx_89_13 : x_code k_P 89 13 = some (.iload_n 3, 1) := by decide +kernel
theorem kx_89_14 : x_code k_P 89 14 = some (.sipush 1600, 3) := by decide +kernel
theorem kx_89_17 : x_code k_P 89 17 = some (.if_icmp .ge 78, 3) := by decide +kernel
theorem kx_89_95 : x_code k_P 89 95 = some (.iconst 1, 1) := by decide +kernel
theorem kx_89_96 : x_code k_P 89 96 = some (.ireturn, 1) := by decide +kernel
theorem kq_89 : x_retk k_P 89 = 2 := by decide +kernel
theorem kx_89_20 : x_code k_P 89 20 = some (.aload_n 0, 1) := by decide +kernel
theorem kx_89_21 : x_code k_P 89 21 = some (.getfield 12, 3) := by decide +kernel
theorem kp_89_12 : x_pool k_P 89 12 = (1, 7, 0) := by decide +kernel
theorem kx_89_24 : x_code k_P 89 24 = some (.bipush 43, 2) := by decide +kernel
theorem kx_89_26 : x_code k_P 89 26 = some (.invokevirtual 22, 3) := by decide +kernel
theorem kp_89_22 : x_pool k_P 89 22 = (2, 23, 1) := by decide +kernel
theorem kx_89_29 : x_code k_P 89 29 = some (.ifCond .ne 15, 3) := by decide +kernel
theorem kx_89_44 : x_code k_P 89 44 = some (.aload_n 0, 1) := by decide +kernel
theorem kx_89_45 : x_code k_P 89 45 = some (.getfield 12, 3) := by decide +kernel
theorem kx_89_48 : x_code k_P 89 48 = some (.bipush 43, 2) := by decide +kernel
theorem kx_89_50 : x_code k_P 89 50 = some (.invokevirtual 22, 3) := by decide +kernel
theorem kx_89_53 : x_code k_P 89 53 = some (.ifCond .eq 8, 3) := by decide +kernel
theorem kx_89_61 : x_code k_P 89 61 = some (.bipush (-8), 2) := by decide +kernel
theorem kx_89_56 : x_code k_P 89 56 = some (.bipush (-7), 2) := by decide +kernel
theorem kx_89_58 : x_code k_P 89 58 = some (.goto 5, 3) := by decide +kernel
theorem kx_89_63 : x_code k_P 89 63 = some (.istore 4, 2) := by decide +kernel
theorem km_89_4 : 4 < x_maxL k_P 89 := by decide +kernel
theorem kx_89_65 : x_code k_P 89 65 = some (.aload_n 0, 1) := by decide +kernel
theorem kx_89_66 : x_code k_P 89 66 = some (.getfield 12, 3) := by decide +kernel
theorem kx_89_69 : x_code k_P 89 69 = some (.invokevirtual 28, 3) := by decide +kernel
theorem kp_89_28 : x_pool k_P 89 28 = (2, 26, 0) := by decide +kernel
theorem kx_89_72 : x_code k_P 89 72 = some (.aload_n 0, 1) := by decide +kernel
theorem kx_89_73 : x_code k_P 89 73 = some (.aload_n 1, 1) := by decide +kernel
theorem kx_89_74 : x_code k_P 89 74 = some (.iload_n 2, 1) := by decide +kernel
theorem kx_89_75 : x_code k_P 89 75 = some (.invokevirtual 18, 3) := by decide +kernel
theorem kx_89_78 : x_code k_P 89 78 = some (.ifCond .ne 5, 3) := by decide +kernel
theorem kx_89_83 : x_code k_P 89 83 = some (.aload_n 1, 1) := by decide +kernel
theorem kx_89_84 : x_code k_P 89 84 = some (.iload 4, 2) := by decide +kernel
theorem kx_89_86 : x_code k_P 89 86 = some (.invokevirtual 31, 3) := by decide +kernel
theorem kp_89_31 : x_pool k_P 89 31 = (2, 10, 1) := by decide +kernel
theorem kx_89_89 : x_code k_P 89 89 = some (.iinc 3 1, 3) := by decide +kernel
theorem kx_89_92 : x_code k_P 89 92 = some (.goto (-79), 3) := by decide +kernel
theorem kx_89_81 : x_code k_P 89 81 = some (.iconst 0, 1) := by decide +kernel
theorem kx_89_82 : x_code k_P 89 82 = some (.ireturn, 1) := by decide +kernel
theorem kx_89_32 : x_code k_P 89 32 = some (.aload_n 0, 1) := by decide +kernel
theorem kx_89_33 : x_code k_P 89 33 = some (.getfield 12, 3) := by decide +kernel
theorem kx_89_36 : x_code k_P 89 36 = some (.bipush 45, 2) := by decide +kernel
theorem kx_89_38 : x_code k_P 89 38 = some (.invokevirtual 22, 3) := by decide +kernel
theorem kx_89_41 : x_code k_P 89 41 = some (.ifCond .eq 54, 3) := by decide +kernel
theorem kx_89_9 : x_code k_P 89 9 = some (.iconst 0, 1) := by decide +kernel
theorem kx_89_10 : x_code k_P 89 10 = some (.ireturn, 1) := by decide +kernel
def fS_89_l13 : List (Nat × Nat) := [(114, 99999), (19, 1), (19, 2), (21, 99999), (22, 1), (22, 2), (24, 99999), (36, 1), (36, 2), (38, 99999), (39, 1), (39, 2), (41, 99999), (5, 2), (5, 3), (5, 4), (5, 5), (5, 6), (5, 7)]
def fS_89_j53 : List (Nat × Nat) := []
theorem m_89 {xs : Nat → Int} {Ln d : Nat} {T : List cK} {M : cM} (hT : TT T) (hI : Rng M) (h50 : M 5 0 = ((2 : Nat) : Int)) {f : Nat} (hf : fF f) (hG : Gm T M) {o k : Int} (hL : o < 7 → Lv xs Ln d (o + 1)) (p0 : 0 ≤ o) (p1 : 0 ≤ k) (p2 : M f 2 + k ≤ M 5 2 ∧ (M 5 3 = 0 ∨ M 5 3 = 5 ∨ M f 2 + k + 1 ≤ M 5 2)) : cC k_P xs Ln (d + 7) 89 [rf 4, rf f, (0, o)] (T, M) (qG T M fS_par 0 (fun v M1 => (v = 1 ∧ M1 f 2 + k ≤ M1 5 2 ∧ (M1 5 3 = 0 ∨ M1 5 3 = 5 ∨ M1 f 2 + k + 1 ≤ M1 5 2)) ∨ (v = 0 ∧ M1 f 2 + k ≤ M1 5 2))) := by
  show cP k_P xs Ln (d + 7) 89 0 [(0, rf 4), (1, rf f), (2, (0, o))] [] (T, M) _
  have hFm : Fr fS_par M M := Fr.refl
  have h52 := rg_5_2 hI
  have h53 := rg_5_3 hI
  refine s_aload_n kx_89_0 rfl ?_
  refine s_aload_n kx_89_1 rfl ?_
  refine s_iload_n kx_89_2 rfl ?_
  refine s_callV2 (k := 4) (s1 := 3) (s2 := 0) (as := [(0, o), rf f]) (rest := []) kx_89_3 kp_89_18 (Or.inl rfl) rfl (tk_4 hT) ki_90 kcl_90 rfl rfl (by decide) (m_90 (d := d) (o := o) (k := k) hT hI h50 hf hG (fun h => (hL h).deep (by omega)) (by omega) (by omega) (by omega)) (kG (fun v1 T2 M2 hT2 hI2 fr2 hG2 v1p => ?_))
  have hFm2 := hFm.call fr2 rfl
  have tr3 := rg_5_2 hI2
  have tr4 := rg_5_3 hI2
  refine s_if_ne (t := 11) kx_89_6 (by decide) (fun hc5 => ?_) (fun hc5 => ?_)
  · replace v1p := v1p.resolve_right (by omega)
    refine s_iconst (v := 0) kx_89_11 (by decide) ?_
    refine s_istore_n kx_89_12 km_89_3 rfl ?_
    have key8 : ∀ n9 : Nat, ∀ (x3_6 : Int), ∀ T7 : List cK, TT T7 → ∀ M7 : cM, Rng M7 → Fr fS_par M M7 → Fr fS_89_l13 M2 M7 → Gm T7 M7 → (0 ≤ x3_6) → (M7 f 2 + k ≤ M7 5 2) → ((M7 5 3 = 0 ∨ M7 5 3 = 5 ∨ M7 f 2 + k + 1 ≤ M7 5 2)) → (2147483647 - x3_6).toNat < n9 → cP k_P xs Ln (d + 7) 89 13 [(0, rf 4), (1, rf f), (2, (0, o)), (3, (0, x3_6))] [] (T7, M7) (qG T M fS_par 0 (fun v M1 => (v = 1 ∧ M1 f 2 + k ≤ M1 5 2 ∧ (M1 5 3 = 0 ∨ M1 5 3 = 5 ∨ M1 f 2 + k + 1 ≤ M1 5 2)) ∨ (v = 0 ∧ M1 f 2 + k ≤ M1 5 2))) := by
      intro n9
      induction n9 with
      | zero => intro x3_6 T7 hT7 M7 hI7 hFm7 fl7 hG7 i10 i11 i12 hm13; exact absurd hm13 (Nat.not_lt_zero _)
      | succ n9 ih14 =>
        intro x3_6 T7 hT7 M7 hI7 hFm7 fl7 hG7 i10 i11 i12 hm13
        have tr15 := rg_5_2 hI7
        have tr16 := rg_5_3 hI7
        refine s_iload_n kx_89_13 rfl ?_
        refine s_sipush (v := 1600) kx_89_14 (by decide) ?_
        refine s_icmp_ge (t := 95) kx_89_17 (by decide) (fun hc17 => ?_) (fun hc17 => ?_)
        · refine s_iconst (v := 1) kx_89_95 (by decide) ?_
          exact s_iret kx_89_96 (Or.inr ⟨kq_89, by omega⟩) ⟨_, _, _, rfl, rfl, hT7, hI7, hFm7, hG7, (by omega)⟩
        · refine s_aload_n kx_89_20 rfl ?_
          refine r_getR (k := 4) (f := 0) (k2 := 5) kx_89_21 kp_89_12 (tk_4 hT7) kf_7_0 (by decide) (rq_4_0 hI7) ?_
          refine s_bipush (v := 43) kx_89_24 (by decide) ?_
          refine s_callV2 (k := 5) (s1 := 2) (s2 := 0) (as := [(0, 43)]) (rest := []) kx_89_26 kp_89_22 (Or.inl rfl) rfl (tk_5 hT7) ki_23 kcl_23 rfl rfl (by decide) (m_23 (d := d + 6) (c := 43) hT7 hI7) (kF (fun v18 v18p => ?_))
          refine s_if_ne (t := 44) kx_89_29 (by decide) (fun hc19 => ?_) (fun hc19 => ?_)
          · replace v18p := v18p.resolve_right (by omega)
            refine s_aload_n kx_89_44 rfl ?_
            refine r_getR (k := 4) (f := 0) (k2 := 5) kx_89_45 kp_89_12 (tk_4 hT7) kf_7_0 (by decide) (rq_4_0 hI7) ?_
            refine s_bipush (v := 43) kx_89_48 (by decide) ?_
            refine s_callV2 (k := 5) (s1 := 2) (s2 := 0) (as := [(0, 43)]) (rest := []) kx_89_50 kp_89_22 (Or.inl rfl) rfl (tk_5 hT7) ki_23 kcl_23 rfl rfl (by decide) (m_23 (d := d + 6) (c := 43) hT7 hI7) (kF (fun v20 v20p => ?_))
            have jn25 : ∀ (y24 : Int), ((-8) ≤ y24) → (y24 ≤ (-7)) → cP k_P xs Ln (d + 7) 89 63 [(0, rf 4), (1, rf f), (2, (0, o)), (3, (0, x3_6))] [(0, y24)] (T7, M7) (qG T M fS_par 0 (fun v M1 => (v = 1 ∧ M1 f 2 + k ≤ M1 5 2 ∧ (M1 5 3 = 0 ∨ M1 5 3 = 5 ∨ M1 f 2 + k + 1 ≤ M1 5 2)) ∨ (v = 0 ∧ M1 f 2 + k ≤ M1 5 2))) := by
              intro y24 a26 a27
              refine s_istore kx_89_63 km_89_4 rfl ?_
              refine s_aload_n kx_89_65 rfl ?_
              refine r_getR (k := 4) (f := 0) (k2 := 5) kx_89_66 kp_89_12 (tk_4 hT7) kf_7_0 (by decide) (rq_4_0 hI7) ?_
              refine s_callV2 (k := 5) (s1 := 1) (s2 := 0) (as := []) (rest := []) kx_89_69 kp_89_28 (Or.inl rfl) rfl (tk_5 hT7) ki_26 kcl_26 rfl rfl (by decide) (m_26 (d := d + 4) hT7 hI7 ((fl7 5 0 rfl).trans ((fr2 5 0 rfl).trans h50))) (kV (fun M29 hI29 fr29 v28p => ?_))
              have hFm29 := hFm7.call fr29 rfl
              have hFl1329 := fl7.call fr29 rfl
              have tr30 := (fr29 f 2 (by rcases hf with rfl | rfl | rfl | rfl <;> rfl))
              have tr31 := rg_5_2 hI29
              have tr32 := rg_5_3 hI29
              refine s_aload_n kx_89_72 rfl ?_
              refine s_aload_n kx_89_73 rfl ?_
              refine s_iload_n kx_89_74 rfl ?_
              refine s_callV2 (k := 4) (s1 := 3) (s2 := 0) (as := [(0, o), rf f]) (rest := []) kx_89_75 kp_89_18 (Or.inl rfl) rfl (tk_4 hT7) ki_90 kcl_90 rfl rfl (by decide) (m_90 (d := d) (o := o) (k := k + 1) hT7 hI29 ((fr29 5 0 rfl).trans ((fl7 5 0 rfl).trans ((fr2 5 0 rfl).trans h50))) hf (Gm.fr hG7 fr29 rfl) (fun h => (hL h).deep (by omega)) (by omega) (by omega) (by omega)) (kG (fun v33 T34 M34 hT34 hI34 fr34 hG34 v33p => ?_))
              have hFm34 := hFm29.call fr34 rfl
              have hFl1334 := hFl1329.call fr34 rfl
              have tr35 := rg_5_2 hI34
              have tr36 := rg_5_3 hI34
              refine s_if_ne (t := 83) kx_89_78 (by decide) (fun hc37 => ?_) (fun hc37 => ?_)
              · replace v33p := v33p.resolve_right (by omega)
                refine s_aload_n kx_89_83 rfl ?_
                refine s_iload kx_89_84 rfl ?_
                refine s_callV2 (k := f) (s1 := 2) (s2 := 0) (as := [(0, y24)]) (rest := []) kx_89_86 kp_89_31 (Or.inl rfl) rfl (tkf_0 hT34 hf) ki_10 kcl_10 rfl rfl (by decide) (m_10 (d := d + 4) (step := y24) hT34 hI34 hf hG34 (by omega)) (kGV (fun T39 M39 hT39 hI39 fr39 hG39 v38p => ?_))
                have hFm39 := hFm34.call fr39 rfl
                have hFl1339 := hFl1334.call fr39 rfl
                have tr40 := (fr39 5 2 rfl)
                have tr41 := (fr39 5 3 rfl)
                have tr42 := rg_5_2 hI39
                have tr43 := rg_5_3 hI39
                refine r_iinc kx_89_89 rfl km_89_3 (by decide) ⟨by omega, by omega⟩ rfl ?_
                refine s_goto (t := 13) kx_89_92 (by decide) ?_
                exact cP.wk (lS1 rfl (lS1 rfl (lS1 rfl (lS1 rfl lS0)))) (ih14 (x3_6 + 1) T39 hT39 M39 hI39 hFm39 hFl1339 hG39 (by omega) (by omega) (by omega) (by omega))
              · replace v33p := v33p.resolve_left (by omega)
                refine s_iconst (v := 0) kx_89_81 (by decide) ?_
                exact s_iret kx_89_82 (Or.inr ⟨kq_89, by omega⟩) ⟨_, _, _, rfl, rfl, hT34, hI34, hFm34, hG34, (by omega)⟩
            refine s_if_eq (t := 61) kx_89_53 (by decide) (fun hc21 => ?_) (fun hc21 => ?_)
            · have hJ22 : Fr fS_89_j53 M7 M7 := Fr.refl
              replace v20p := v20p.resolve_left (by omega)
              refine s_bipush (v := (-8)) kx_89_61 (by decide) ?_
              exact cP.wk (lS1 rfl (lS1 rfl (lS1 rfl (lS1 rfl lS0)))) (jn25 (-8) (by omega) (by omega))
            · have hJ23 : Fr fS_89_j53 M7 M7 := Fr.refl
              replace v20p := v20p.resolve_right (by omega)
              refine s_bipush (v := (-7)) kx_89_56 (by decide) ?_
              refine s_goto (t := 63) kx_89_58 (by decide) ?_
              exact cP.wk (lS1 rfl (lS1 rfl (lS1 rfl (lS1 rfl lS0)))) (jn25 (-7) (by omega) (by omega))
          · replace v18p := v18p.resolve_left (by omega)
            refine s_aload_n kx_89_32 rfl ?_
            refine r_getR (k := 4) (f := 0) (k2 := 5) kx_89_33 kp_89_12 (tk_4 hT7) kf_7_0 (by decide) (rq_4_0 hI7) ?_
            refine s_bipush (v := 45) kx_89_36 (by decide) ?_
            refine s_callV2 (k := 5) (s1 := 2) (s2 := 0) (as := [(0, 45)]) (rest := []) kx_89_38 kp_89_22 (Or.inl rfl) rfl (tk_5 hT7) ki_23 kcl_23 rfl rfl (by decide) (m_23 (d := d + 6) (c := 45) hT7 hI7) (kF (fun v44 v44p => ?_))
            refine s_if_eq (t := 95) kx_89_41 (by decide) (fun hc45 => ?_) (fun hc45 => ?_)
            · replace v44p := v44p.resolve_left (by omega)
              refine s_iconst (v := 1) kx_89_95 (by decide) ?_
              exact s_iret kx_89_96 (Or.inr ⟨kq_89, by omega⟩) ⟨_, _, _, rfl, rfl, hT7, hI7, hFm7, hG7, (by omega)⟩
            · replace v44p := v44p.resolve_right (by omega)
              refine s_aload_n kx_89_44 rfl ?_
              refine r_getR (k := 4) (f := 0) (k2 := 5) kx_89_45 kp_89_12 (tk_4 hT7) kf_7_0 (by decide) (rq_4_0 hI7) ?_
              refine s_bipush (v := 43) kx_89_48 (by decide) ?_
              refine s_callV2 (k := 5) (s1 := 2) (s2 := 0) (as := [(0, 43)]) (rest := []) kx_89_50 kp_89_22 (Or.inl rfl) rfl (tk_5 hT7) ki_23 kcl_23 rfl rfl (by decide) (m_23 (d := d + 6) (c := 43) hT7 hI7) (kF (fun v46 v46p => ?_))
              have jn51 : ∀ (y50 : Int), ((-8) ≤ y50) → (y50 ≤ (-7)) → cP k_P xs Ln (d + 7) 89 63 [(0, rf 4), (1, rf f), (2, (0, o)), (3, (0, x3_6))] [(0, y50)] (T7, M7) (qG T M fS_par 0 (fun v M1 => (v = 1 ∧ M1 f 2 + k ≤ M1 5 2 ∧ (M1 5 3 = 0 ∨ M1 5 3 = 5 ∨ M1 f 2 + k + 1 ≤ M1 5 2)) ∨ (v = 0 ∧ M1 f 2 + k ≤ M1 5 2))) := by
                intro y50 a52 a53
                refine s_istore kx_89_63 km_89_4 rfl ?_
                refine s_aload_n kx_89_65 rfl ?_
                refine r_getR (k := 4) (f := 0) (k2 := 5) kx_89_66 kp_89_12 (tk_4 hT7) kf_7_0 (by decide) (rq_4_0 hI7) ?_
                refine s_callV2 (k := 5) (s1 := 1) (s2 := 0) (as := []) (rest := []) kx_89_69 kp_89_28 (Or.inl rfl) rfl (tk_5 hT7) ki_26 kcl_26 rfl rfl (by decide) (m_26 (d := d + 4) hT7 hI7 ((fl7 5 0 rfl).trans ((fr2 5 0 rfl).trans h50))) (kV (fun M55 hI55 fr55 v54p => ?_))
                have hFm55 := hFm7.call fr55 rfl
                have hFl1355 := fl7.call fr55 rfl
                have tr56 := (fr55 f 2 (by rcases hf with rfl | rfl | rfl | rfl <;> rfl))
                have tr57 := rg_5_2 hI55
                have tr58 := rg_5_3 hI55
                refine s_aload_n kx_89_72 rfl ?_
                refine s_aload_n kx_89_73 rfl ?_
                refine s_iload_n kx_89_74 rfl ?_
                refine s_callV2 (k := 4) (s1 := 3) (s2 := 0) (as := [(0, o), rf f]) (rest := []) kx_89_75 kp_89_18 (Or.inl rfl) rfl (tk_4 hT7) ki_90 kcl_90 rfl rfl (by decide) (m_90 (d := d) (o := o) (k := k + 1) hT7 hI55 ((fr55 5 0 rfl).trans ((fl7 5 0 rfl).trans ((fr2 5 0 rfl).trans h50))) hf (Gm.fr hG7 fr55 rfl) (fun h => (hL h).deep (by omega)) (by omega) (by omega) (by omega)) (kG (fun v59 T60 M60 hT60 hI60 fr60 hG60 v59p => ?_))
                have hFm60 := hFm55.call fr60 rfl
                have hFl1360 := hFl1355.call fr60 rfl
                have tr61 := rg_5_2 hI60
                have tr62 := rg_5_3 hI60
                refine s_if_ne (t := 83) kx_89_78 (by decide) (fun hc63 => ?_) (fun hc63 => ?_)
                · replace v59p := v59p.resolve_right (by omega)
                  refine s_aload_n kx_89_83 rfl ?_
                  refine s_iload kx_89_84 rfl ?_
                  refine s_callV2 (k := f) (s1 := 2) (s2 := 0) (as := [(0, y50)]) (rest := []) kx_89_86 kp_89_31 (Or.inl rfl) rfl (tkf_0 hT60 hf) ki_10 kcl_10 rfl rfl (by decide) (m_10 (d := d + 4) (step := y50) hT60 hI60 hf hG60 (by omega)) (kGV (fun T65 M65 hT65 hI65 fr65 hG65 v64p => ?_))
                  have hFm65 := hFm60.call fr65 rfl
                  have hFl1365 := hFl1360.call fr65 rfl
                  have tr66 := (fr65 5 2 rfl)
                  have tr67 := (fr65 5 3 rfl)
                  have tr68 := rg_5_2 hI65
                  have tr69 := rg_5_3 hI65
                  refine r_iinc kx_89_89 rfl km_89_3 (by decide) ⟨by omega, by omega⟩ rfl ?_
                  refine s_goto (t := 13) kx_89_92 (by decide) ?_
                  exact cP.wk (lS1 rfl (lS1 rfl (lS1 rfl (lS1 rfl lS0)))) (ih14 (x3_6 + 1) T65 hT65 M65 hI65 hFm65 hFl1365 hG65 (by omega) (by omega) (by omega) (by omega))
                · replace v59p := v59p.resolve_left (by omega)
                  refine s_iconst (v := 0) kx_89_81 (by decide) ?_
                  exact s_iret kx_89_82 (Or.inr ⟨kq_89, by omega⟩) ⟨_, _, _, rfl, rfl, hT60, hI60, hFm60, hG60, (by omega)⟩
              refine s_if_eq (t := 61) kx_89_53 (by decide) (fun hc47 => ?_) (fun hc47 => ?_)
              · have hJ48 : Fr fS_89_j53 M7 M7 := Fr.refl
                replace v46p := v46p.resolve_left (by omega)
                refine s_bipush (v := (-8)) kx_89_61 (by decide) ?_
                exact cP.wk (lS1 rfl (lS1 rfl (lS1 rfl (lS1 rfl lS0)))) (jn51 (-8) (by omega) (by omega))
              · have hJ49 : Fr fS_89_j53 M7 M7 := Fr.refl
                replace v46p := v46p.resolve_right (by omega)
                refine s_bipush (v := (-7)) kx_89_56 (by decide) ?_
                refine s_goto (t := 63) kx_89_58 (by decide) ?_
                exact cP.wk (lS1 rfl (lS1 rfl (lS1 rfl (lS1 rfl lS0)))) (jn51 (-7) (by omega) (by omega))
    exact cP.wk (lS1 rfl (lS1 rfl (lS1 rfl (lS1 rfl lS0)))) (key8 _ 0 T2 hT2 M2 hI2 hFm2 Fr.refl hG2 (by omega) (by omega) (by omega) (Nat.lt_succ_self _))
  · replace v1p := v1p.resolve_left (by omega)
    refine s_iconst (v := 0) kx_89_9 (by decide) ?_
    exact s_iret kx_89_10 (Or.inr ⟨kq_89, by omega⟩) ⟨_, _, _, rfl, rfl, hT2, hI2, hFm2, hG2, (by omega)⟩
theorem kx_100_0 : x_code k_P 100 0 = some (.aload_n 0, 1) := by decide +kernel
theorem kx_100_1 : x_code k_P 100 1 = some (.getfield 12, 3) := by decide +kernel
theorem kp_100_12 : x_pool k_P 100 12 = (1, 7, 0) := by decide +kernel
theorem kx_100_4 : x_code k_P 100 4 = some (.bipush 60, 2) := by decide +kernel
theorem kx_100_6 : x_code k_P 100 6 = some (.invokevirtual 22, 3) := by decide +kernel
theorem kp_100_22 : x_pool k_P 100 22 = (2, 23, 1) := by decide +kernel
theorem kx_100_9 : x_code k_P 100 9 = some (.ifCond .eq 8, 3) := by decide +kernel
theorem kx_100_17 : x_code k_P 100 17 = some (.aload_n 0, 1) := by decide +kernel
theorem kx_100_18 : x_code k_P 100 18 = some (.getfield 12, 3) := by decide +kernel
theorem kx_100_21 : x_code k_P 100 21 = some (.bipush 62, 2) := by decide +kernel
theorem kx_100_23 : x_code k_P 100 23 = some (.invokevirtual 22, 3) := by decide +kernel
theorem kx_100_26 : x_code k_P 100 26 = some (.ifCond .eq 8, 3) := by decide +kernel
theorem kx_100_34 : x_code k_P 100 34 = some (.bipush (-16), 2) := by decide +kernel
theorem kx_100_36 : x_code k_P 100 36 = some (.istore_n 3, 1) := by decide +kernel
theorem km_100_3 : 3 < x_maxL k_P 100 := by decide +kernel
theorem kx_100_37 : x_code k_P 100 37 = some (.iload_n 3, 1) := by decide +kernel
theorem kx_100_38 : x_code k_P 100 38 = some (.bipush (-16), 2) := by decide +kernel
theorem kx_100_40 : x_code k_P 100 40 = some (.if_icmp .ne 23, 3) := by decide +kernel
theorem kx_100_43 : x_code k_P 100 43 = some (.aload_n 0, 1) := by decide +kernel
theorem kx_100_44 : x_code k_P 100 44 = some (.getfield 12, 3) := by decide +kernel
theorem kx_100_47 : x_code k_P 100 47 = some (.bipush 61, 2) := by decide +kernel
theorem kx_100_49 : x_code k_P 100 49 = some (.invokevirtual 22, 3) := by decide +kernel
theorem kx_100_52 : x_code k_P 100 52 = some (.ifCond .ne 11, 3) := by decide +kernel
theorem kx_100_63 : x_code k_P 100 63 = some (.aload_n 0, 1) := by decide +kernel
theorem kx_100_64 : x_code k_P 100 64 = some (.getfield 12, 3) := by decide +kernel
theorem kx_100_67 : x_code k_P 100 67 = some (.invokevirtual 28, 3) := by decide +kernel
theorem kp_100_28 : x_pool k_P 100 28 = (2, 26, 0) := by decide +kernel
theorem kx_100_70 : x_code k_P 100 70 = some (.aload_n 0, 1) := by decide +kernel
theorem kx_100_71 : x_code k_P 100 71 = some (.aload_n 1, 1) := by decide +kernel
theorem kx_100_72 : x_code k_P 100 72 = some (.iload_n 2, 1) := by decide +kernel
theorem kx_100_73 : x_code k_P 100 73 = some (.invokevirtual 56, 3) := by decide +kernel
theorem kp_100_56 : x_pool k_P 100 56 = (2, 89, 2) := by decide +kernel
theorem kx_100_76 : x_code k_P 100 76 = some (.istore 4, 2) := by decide +kernel
theorem km_100_4 : 4 < x_maxL k_P 100 := by decide +kernel
theorem kx_100_78 : x_code k_P 100 78 = some (.aload_n 1, 1) := by decide +kernel
theorem kx_100_79 : x_code k_P 100 79 = some (.iload_n 3, 1) := by decide +kernel
theorem kx_100_80 : x_code k_P 100 80 = some (.invokevirtual 31, 3) := by decide +kernel
theorem kp_100_31 : x_pool k_P 100 31 = (2, 10, 1) := by decide +kernel
theorem kx_100_83 : x_code k_P 100 83 = some (.iload 4, 2) := by decide +kernel
theorem kx_100_85 : x_code k_P 100 85 = some (.ireturn, 1) := by decide +kernel
theorem kq_100 : x_retk k_P 100 = 2 := by decide +kernel
theorem kx_100_55 : x_code k_P 100 55 = some (.aload_n 0, 1) := by decide +kernel
theorem kx_100_56 : x_code k_P 100 56 = some (.getfield 12, 3) := by decide +kernel
theorem kx_100_59 : x_code k_P 100 59 = some (.invokevirtual 62, 3) := by decide +kernel
theorem kp_100_62 : x_pool k_P 100 62 = (2, 21, 0) := by decide +kernel
theorem kx_100_62 : x_code k_P 100 62 = some (.ireturn, 1) := by decide +kernel
theorem kx_100_29 : x_code k_P 100 29 = some (.bipush (-15), 2) := by decide +kernel
theorem kx_100_31 : x_code k_P 100 31 = some (.goto 5, 3) := by decide +kernel
theorem kx_100_12 : x_code k_P 100 12 = some (.bipush (-14), 2) := by decide +kernel
theorem kx_100_14 : x_code k_P 100 14 = some (.goto 22, 3) := by decide +kernel
theorem m_100 {xs : Nat → Int} {Ln d : Nat} {T : List cK} {M : cM} (hT : TT T) (hI : Rng M) (h50 : M 5 0 = ((2 : Nat) : Int)) {f : Nat} (hf : fF f) (hG : Gm T M) {o k : Int} (hL : o < 7 → Lv xs Ln d (o + 1)) (p0 : 0 ≤ o) (p1 : 0 ≤ k) (p2 : M f 2 + k ≤ M 5 2 ∧ (M 5 3 = 0 ∨ M 5 3 = 5 ∨ M f 2 + k + 1 ≤ M 5 2)) : cC k_P xs Ln (d + 8) 100 [rf 4, rf f, (0, o)] (T, M) (qG T M fS_par 0 (fun v M1 => (v = 1 ∧ M1 f 2 + k ≤ M1 5 2 ∧ (M1 5 3 = 0 ∨ M1 5 3 = 5 ∨ M1 f 2 + k + 1 ≤ M1 5 2)) ∨ (v = 0 ∧ M1 f 2 + k ≤ M1 5 2))) := by
  show cP k_P xs Ln (d + 8) 100 0 [(0, rf 4), (1, rf f), (2, (0, o))] [] (T, M) _
  have hFm : Fr fS_par M M := Fr.refl
  have h52 := rg_5_2 hI
  have h53 := rg_5_3 hI
  refine s_aload_n kx_100_0 rfl ?_
  refine r_getR (k := 4) (f := 0) (k2 := 5) kx_100_1 kp_100_12 (tk_4 hT) kf_7_0 (by decide) (rq_4_0 hI) ?_
  refine s_bipush (v := 60) kx_100_4 (by decide) ?_
  refine s_callV2 (k := 5) (s1 := 2) (s2 := 0) (as := [(0, 60)]) (rest := []) kx_100_6 kp_100_22 (Or.inl rfl) rfl (tk_5 hT) ki_23 kcl_23 rfl rfl (by decide) (m_23 (d := d + 7) (c := 60) hT hI) (kF (fun v1 v1p => ?_))
  refine s_if_eq (t := 17) kx_100_9 (by decide) (fun hc2 => ?_) (fun hc2 => ?_)
  · replace v1p := v1p.resolve_left (by omega)
    refine s_aload_n kx_100_17 rfl ?_
    refine r_getR (k := 4) (f := 0) (k2 := 5) kx_100_18 kp_100_12 (tk_4 hT) kf_7_0 (by decide) (rq_4_0 hI) ?_
    refine s_bipush (v := 62) kx_100_21 (by decide) ?_
    refine s_callV2 (k := 5) (s1 := 2) (s2 := 0) (as := [(0, 62)]) (rest := []) kx_100_23 kp_100_22 (Or.inl rfl) rfl (tk_5 hT) ki_23 kcl_23 rfl rfl (by decide) (m_23 (d := d + 7) (c := 62) hT hI) (kF (fun v3 v3p => ?_))
    refine s_if_eq (t := 34) kx_100_26 (by decide) (fun hc4 => ?_) (fun hc4 => ?_)
    · replace v3p := v3p.resolve_left (by omega)
      refine s_bipush (v := (-16)) kx_100_34 (by decide) ?_
      refine s_istore_n kx_100_36 km_100_3 rfl ?_
      refine s_iload_n kx_100_37 rfl ?_
      refine s_bipush (v := (-16)) kx_100_38 (by decide) ?_
      refine s_icmp_ne (t := 63) kx_100_40 (by decide) (fun hc5 => absurd hc5 (by decide)) (fun hc5 => ?_)
      refine s_aload_n kx_100_43 rfl ?_
      refine r_getR (k := 4) (f := 0) (k2 := 5) kx_100_44 kp_100_12 (tk_4 hT) kf_7_0 (by decide) (rq_4_0 hI) ?_
      refine s_bipush (v := 61) kx_100_47 (by decide) ?_
      refine s_callV2 (k := 5) (s1 := 2) (s2 := 0) (as := [(0, 61)]) (rest := []) kx_100_49 kp_100_22 (Or.inl rfl) rfl (tk_5 hT) ki_23 kcl_23 rfl rfl (by decide) (m_23 (d := d + 7) (c := 61) hT hI) (kF (fun v6 v6p => ?_))
      refine s_if_ne (t := 63) kx_100_52 (by decide) (fun hc7 => ?_) (fun hc7 => ?_)
      · replace v6p := v6p.resolve_right (by omega)
        refine s_aload_n kx_100_63 rfl ?_
        refine r_getR (k := 4) (f := 0) (k2 := 5) kx_100_64 kp_100_12 (tk_4 hT) kf_7_0 (by decide) (rq_4_0 hI) ?_
        refine s_callV2 (k := 5) (s1 := 1) (s2 := 0) (as := []) (rest := []) kx_100_67 kp_100_28 (Or.inl rfl) rfl (tk_5 hT) ki_26 kcl_26 rfl rfl (by decide) (m_26 (d := d + 5) hT hI h50) (kV (fun M9 hI9 fr9 v8p => ?_))
        have hFm9 := hFm.call fr9 rfl
        have tr10 := (fr9 f 2 (by rcases hf with rfl | rfl | rfl | rfl <;> rfl))
        have tr11 := rg_5_2 hI9
        have tr12 := rg_5_3 hI9
        refine s_aload_n kx_100_70 rfl ?_
        refine s_aload_n kx_100_71 rfl ?_
        refine s_iload_n kx_100_72 rfl ?_
        refine s_callV2 (k := 4) (s1 := 3) (s2 := 0) (as := [(0, o), rf f]) (rest := []) kx_100_73 kp_100_56 (Or.inl rfl) rfl (tk_4 hT) ki_89 kcl_89 rfl rfl (by decide) (m_89 (d := d) (o := o) (k := k + 1) hT hI9 ((fr9 5 0 rfl).trans h50) hf (Gm.fr hG fr9 rfl) (fun h => (hL h).deep (by omega)) (by omega) (by omega) (by omega)) (kG (fun v13 T14 M14 hT14 hI14 fr14 hG14 v13p => ?_))
        have hFm14 := hFm9.call fr14 rfl
        have tr15 := rg_5_2 hI14
        have tr16 := rg_5_3 hI14
        refine s_istore kx_100_76 km_100_4 rfl ?_
        refine s_aload_n kx_100_78 rfl ?_
        refine s_iload_n kx_100_79 rfl ?_
        refine s_callV2 (k := f) (s1 := 2) (s2 := 0) (as := [(0, (-16))]) (rest := []) kx_100_80 kp_100_31 (Or.inl rfl) rfl (tkf_0 hT14 hf) ki_10 kcl_10 rfl rfl (by decide) (m_10 (d := d + 5) (step := (-16)) hT14 hI14 hf hG14 (by omega)) (kGV (fun T18 M18 hT18 hI18 fr18 hG18 v17p => ?_))
        have hFm18 := hFm14.call fr18 rfl
        have tr19 := (fr18 5 2 rfl)
        have tr20 := (fr18 5 3 rfl)
        have tr21 := rg_5_2 hI18
        have tr22 := rg_5_3 hI18
        refine s_iload kx_100_83 rfl ?_
        exact s_iret kx_100_85 (Or.inr ⟨kq_100, by omega⟩) ⟨_, _, _, rfl, rfl, hT18, hI18, hFm18, hG18, (by omega)⟩
      · replace v6p := v6p.resolve_left (by omega)
        refine s_aload_n kx_100_55 rfl ?_
        refine r_getR (k := 4) (f := 0) (k2 := 5) kx_100_56 kp_100_12 (tk_4 hT) kf_7_0 (by decide) (rq_4_0 hI) ?_
        refine s_callV2 (k := 5) (s1 := 1) (s2 := 0) (as := []) (rest := []) kx_100_59 kp_100_62 (Or.inl rfl) rfl (tk_5 hT) ki_21 kcl_21 rfl rfl (by decide) (m_21 (d := d + 6) hT hI) (kW (fun v23 M24 hI24 fr24 v23p => ?_))
        have hFm24 := hFm.call fr24 rfl
        have tr25 := (fr24 5 2 rfl)
        have tr26 := (fr24 5 3 rfl)
        have tr27 := (fr24 f 2 (by rcases hf with rfl | rfl | rfl | rfl <;> rfl))
        have tr28 := rg_5_2 hI24
        have tr29 := rg_5_3 hI24
        exact s_iret kx_100_62 (Or.inr ⟨kq_100, by omega⟩) ⟨_, _, _, rfl, rfl, hT, hI24, hFm24, (Gm.fr hG fr24 rfl), (by omega)⟩
    · replace v3p := v3p.resolve_right (by omega)
      refine s_bipush (v := (-15)) kx_100_29 (by decide) ?_
      refine s_goto (t := 36) kx_100_31 (by decide) ?_
      refine s_istore_n kx_100_36 km_100_3 rfl ?_
      refine s_iload_n kx_100_37 rfl ?_
      refine s_bipush (v := (-16)) kx_100_38 (by decide) ?_
      refine s_icmp_ne (t := 63) kx_100_40 (by decide) (fun hc30 => ?_) (fun hc30 => absurd hc30 (by decide))
      refine s_aload_n kx_100_63 rfl ?_
      refine r_getR (k := 4) (f := 0) (k2 := 5) kx_100_64 kp_100_12 (tk_4 hT) kf_7_0 (by decide) (rq_4_0 hI) ?_
      refine s_callV2 (k := 5) (s1 := 1) (s2 := 0) (as := []) (rest := []) kx_100_67 kp_100_28 (Or.inl rfl) rfl (tk_5 hT) ki_26 kcl_26 rfl rfl (by decide) (m_26 (d := d + 5) hT hI h50) (kV (fun M32 hI32 fr32 v31p => ?_))
      have hFm32 := hFm.call fr32 rfl
      have tr33 := (fr32 f 2 (by rcases hf with rfl | rfl | rfl | rfl <;> rfl))
      have tr34 := rg_5_2 hI32
      have tr35 := rg_5_3 hI32
      refine s_aload_n kx_100_70 rfl ?_
      refine s_aload_n kx_100_71 rfl ?_
      refine s_iload_n kx_100_72 rfl ?_
      refine s_callV2 (k := 4) (s1 := 3) (s2 := 0) (as := [(0, o), rf f]) (rest := []) kx_100_73 kp_100_56 (Or.inl rfl) rfl (tk_4 hT) ki_89 kcl_89 rfl rfl (by decide) (m_89 (d := d) (o := o) (k := k + 1) hT hI32 ((fr32 5 0 rfl).trans h50) hf (Gm.fr hG fr32 rfl) (fun h => (hL h).deep (by omega)) (by omega) (by omega) (by omega)) (kG (fun v36 T37 M37 hT37 hI37 fr37 hG37 v36p => ?_))
      have hFm37 := hFm32.call fr37 rfl
      have tr38 := rg_5_2 hI37
      have tr39 := rg_5_3 hI37
      refine s_istore kx_100_76 km_100_4 rfl ?_
      refine s_aload_n kx_100_78 rfl ?_
      refine s_iload_n kx_100_79 rfl ?_
      refine s_callV2 (k := f) (s1 := 2) (s2 := 0) (as := [(0, (-15))]) (rest := []) kx_100_80 kp_100_31 (Or.inl rfl) rfl (tkf_0 hT37 hf) ki_10 kcl_10 rfl rfl (by decide) (m_10 (d := d + 5) (step := (-15)) hT37 hI37 hf hG37 (by omega)) (kGV (fun T41 M41 hT41 hI41 fr41 hG41 v40p => ?_))
      have hFm41 := hFm37.call fr41 rfl
      have tr42 := (fr41 5 2 rfl)
      have tr43 := (fr41 5 3 rfl)
      have tr44 := rg_5_2 hI41
      have tr45 := rg_5_3 hI41
      refine s_iload kx_100_83 rfl ?_
      exact s_iret kx_100_85 (Or.inr ⟨kq_100, by omega⟩) ⟨_, _, _, rfl, rfl, hT41, hI41, hFm41, hG41, (by omega)⟩
  · replace v1p := v1p.resolve_right (by omega)
    refine s_bipush (v := (-14)) kx_100_12 (by decide) ?_
    refine s_goto (t := 36) kx_100_14 (by decide) ?_
    refine s_istore_n kx_100_36 km_100_3 rfl ?_
    refine s_iload_n kx_100_37 rfl ?_
    refine s_bipush (v := (-16)) kx_100_38 (by decide) ?_
    refine s_icmp_ne (t := 63) kx_100_40 (by decide) (fun hc46 => ?_) (fun hc46 => absurd hc46 (by decide))
    refine s_aload_n kx_100_63 rfl ?_
    refine r_getR (k := 4) (f := 0) (k2 := 5) kx_100_64 kp_100_12 (tk_4 hT) kf_7_0 (by decide) (rq_4_0 hI) ?_
    refine s_callV2 (k := 5) (s1 := 1) (s2 := 0) (as := []) (rest := []) kx_100_67 kp_100_28 (Or.inl rfl) rfl (tk_5 hT) ki_26 kcl_26 rfl rfl (by decide) (m_26 (d := d + 5) hT hI h50) (kV (fun M48 hI48 fr48 v47p => ?_))
    have hFm48 := hFm.call fr48 rfl
    have tr49 := (fr48 f 2 (by rcases hf with rfl | rfl | rfl | rfl <;> rfl))
    have tr50 := rg_5_2 hI48
    have tr51 := rg_5_3 hI48
    refine s_aload_n kx_100_70 rfl ?_
    refine s_aload_n kx_100_71 rfl ?_
    refine s_iload_n kx_100_72 rfl ?_
    refine s_callV2 (k := 4) (s1 := 3) (s2 := 0) (as := [(0, o), rf f]) (rest := []) kx_100_73 kp_100_56 (Or.inl rfl) rfl (tk_4 hT) ki_89 kcl_89 rfl rfl (by decide) (m_89 (d := d) (o := o) (k := k + 1) hT hI48 ((fr48 5 0 rfl).trans h50) hf (Gm.fr hG fr48 rfl) (fun h => (hL h).deep (by omega)) (by omega) (by omega) (by omega)) (kG (fun v52 T53 M53 hT53 hI53 fr53 hG53 v52p => ?_))
    have hFm53 := hFm48.call fr53 rfl
    have tr54 := rg_5_2 hI53
    have tr55 := rg_5_3 hI53
    refine s_istore kx_100_76 km_100_4 rfl ?_
    refine s_aload_n kx_100_78 rfl ?_
    refine s_iload_n kx_100_79 rfl ?_
    refine s_callV2 (k := f) (s1 := 2) (s2 := 0) (as := [(0, (-14))]) (rest := []) kx_100_80 kp_100_31 (Or.inl rfl) rfl (tkf_0 hT53 hf) ki_10 kcl_10 rfl rfl (by decide) (m_10 (d := d + 5) (step := (-14)) hT53 hI53 hf hG53 (by omega)) (kGV (fun T57 M57 hT57 hI57 fr57 hG57 v56p => ?_))
    have hFm57 := hFm53.call fr57 rfl
    have tr58 := (fr57 5 2 rfl)
    have tr59 := (fr57 5 3 rfl)
    have tr60 := rg_5_2 hI57
    have tr61 := rg_5_3 hI57
    refine s_iload kx_100_83 rfl ?_
    exact s_iret kx_100_85 (Or.inr ⟨kq_100, by omega⟩) ⟨_, _, _, rfl, rfl, hT57, hI57, hFm57, hG57, (by omega)⟩
theorem kx_99_0 : x_code k_P 99 0 = some (.iload_n 2, 1) := by decide +kernel
theorem kx_99_1 : x_code k_P 99 1 = some (.bipush 7, 2) := by decide +kernel
theorem kx_99_3 : x_code k_P 99 3 = some (.if_icmp .lt 19, 3) := by decide +kernel
theorem kx_99_22 : x_code k_P 99 22 = some (.aload_n 0, 1) := by decide +kernel
theorem kx_99_23 : x_code k_P 99 23 = some (.getfield 12, 3) := by decide +kernel
theorem kp_99_12 : x_pool k_P 99 12 = (1, 7, 0) := by decide +kernel
theorem kx_99_26 : x_code k_P 99 26 = some (.invokevirtual 28, 3) := by decide +kernel
theorem kp_99_28 : x_pool k_P 99 28 = (2, 26, 0) := by decide +kernel
theorem kx_99_29 : x_code k_P 99 29 = some (.aload_n 0, 1) := by decide +kernel
theorem kx_99_30 : x_code k_P 99 30 = some (.aload_n 1, 1) := by decide +kernel
theorem kx_99_31 : x_code k_P 99 31 = some (.iload_n 2, 1) := by decide +kernel
theorem kx_99_32 : x_code k_P 99 32 = some (.iconst 1, 1) := by decide +kernel
theorem kx_99_33 : x_code k_P 99 33 = some (.iadd, 1) := by decide +kernel
theorem kx_99_34 : x_code k_P 99 34 = some (.invokevirtual 84, 3) := by decide +kernel
theorem kp_99_84 : x_pool k_P 99 84 = (2, 98, 2) := by decide +kernel
theorem ki_98 : x_mci k_P 98 = 7 := by decide +kernel
theorem kcl_98 : x_maxL k_P 98 ≤ 60 ∧ 3 ≤ x_maxL k_P 98 := by decide +kernel
theorem kx_99_37 : x_code k_P 99 37 = some (.istore_n 3, 1) := by decide +kernel
theorem km_99_3 : 3 < x_maxL k_P 99 := by decide +kernel
theorem kx_99_38 : x_code k_P 99 38 = some (.aload_n 1, 1) := by decide +kernel
theorem kx_99_39 : x_code k_P 99 39 = some (.bipush (-19), 2) := by decide +kernel
theorem kx_99_41 : x_code k_P 99 41 = some (.invokevirtual 31, 3) := by decide +kernel
theorem kp_99_31 : x_pool k_P 99 31 = (2, 10, 1) := by decide +kernel
theorem kx_99_44 : x_code k_P 99 44 = some (.iload_n 3, 1) := by decide +kernel
theorem kx_99_45 : x_code k_P 99 45 = some (.ireturn, 1) := by decide +kernel
theorem kq_99 : x_retk k_P 99 = 2 := by decide +kernel
theorem kx_99_6 : x_code k_P 99 6 = some (.aload_n 0, 1) := by decide +kernel
theorem kx_99_7 : x_code k_P 99 7 = some (.getfield 12, 3) := by decide +kernel
theorem kx_99_10 : x_code k_P 99 10 = some (.iconst 5, 1) := by decide +kernel
theorem kx_99_11 : x_code k_P 99 11 = some (.aload_n 0, 1) := by decide +kernel
theorem kx_99_12 : x_code k_P 99 12 = some (.getfield 12, 3) := by decide +kernel
theorem kx_99_15 : x_code k_P 99 15 = some (.getfield 96, 3) := by decide +kernel
theorem kp_99_96 : x_pool k_P 99 96 = (1, 3, 5) := by decide +kernel
theorem kx_99_18 : x_code k_P 99 18 = some (.invokevirtual 99, 3) := by decide +kernel
theorem kp_99_99 : x_pool k_P 99 99 = (2, 20, 2) := by decide +kernel
theorem kx_99_21 : x_code k_P 99 21 = some (.ireturn, 1) := by decide +kernel
theorem m_99 {xs : Nat → Int} {Ln d : Nat} {T : List cK} {M : cM} (hT : TT T) (hI : Rng M) (h50 : M 5 0 = ((2 : Nat) : Int)) {f : Nat} (hf : fF f) (hG : Gm T M) {o k : Int} (hL : o < 7 → Lv xs Ln d (o + 1)) (p0 : 0 ≤ o) (p1 : 0 ≤ k) (p2 : M f 2 + k + 1 ≤ M 5 2) : cC k_P xs Ln (d + 4) 99 [rf 4, rf f, (0, o)] (T, M) (qG T M fS_par 0 (fun v M1 => (v = 1 ∧ M1 f 2 + k ≤ M1 5 2 ∧ (M1 5 3 = 0 ∨ M1 5 3 = 5 ∨ M1 f 2 + k + 1 ≤ M1 5 2)) ∨ (v = 0 ∧ M1 f 2 + k ≤ M1 5 2))) := by
  show cP k_P xs Ln (d + 4) 99 0 [(0, rf 4), (1, rf f), (2, (0, o))] [] (T, M) _
  have hFm : Fr fS_par M M := Fr.refl
  have h52 := rg_5_2 hI
  have h53 := rg_5_3 hI
  refine s_iload_n kx_99_0 rfl ?_
  refine s_bipush (v := 7) kx_99_1 (by decide) ?_
  refine s_icmp_lt (t := 22) kx_99_3 (by decide) (fun hc1 => ?_) (fun hc1 => ?_)
  · refine s_aload_n kx_99_22 rfl ?_
    refine r_getR (k := 4) (f := 0) (k2 := 5) kx_99_23 kp_99_12 (tk_4 hT) kf_7_0 (by decide) (rq_4_0 hI) ?_
    refine s_callV2 (k := 5) (s1 := 1) (s2 := 0) (as := []) (rest := []) kx_99_26 kp_99_28 (Or.inl rfl) rfl (tk_5 hT) ki_26 kcl_26 rfl rfl (by decide) (m_26 (d := d + 1) hT hI h50) (kV (fun M3 hI3 fr3 v2p => ?_))
    have hFm3 := hFm.call fr3 rfl
    have tr4 := (fr3 f 2 (by rcases hf with rfl | rfl | rfl | rfl <;> rfl))
    have tr5 := rg_5_2 hI3
    have tr6 := rg_5_3 hI3
    refine s_aload_n kx_99_29 rfl ?_
    refine s_aload_n kx_99_30 rfl ?_
    refine s_iload_n kx_99_31 rfl ?_
    refine s_iconst (v := 1) kx_99_32 (by decide) ?_
    refine r_add kx_99_33 ⟨by omega, by omega⟩ ?_
    refine s_callV2 (k := 4) (s1 := 3) (s2 := 0) (as := [(0, (o + 1)), rf f]) (rest := []) kx_99_34 kp_99_84 (Or.inl rfl) rfl (tk_4 hT) ki_98 kcl_98 rfl rfl (by decide) (cC.deep ((hL (by omega)).2.2 (k := k + 1) hT hI3 ((fr3 5 0 rfl).trans h50) hf (Gm.fr hG fr3 rfl) (by omega) (by omega)) (by omega)) (kG (fun v7 T8 M8 hT8 hI8 fr8 hG8 v7p => ?_))
    have hFm8 := hFm3.call fr8 rfl
    have tr9 := rg_5_2 hI8
    have tr10 := rg_5_3 hI8
    refine s_istore_n kx_99_37 km_99_3 rfl ?_
    refine s_aload_n kx_99_38 rfl ?_
    refine s_bipush (v := (-19)) kx_99_39 (by decide) ?_
    refine s_callV2 (k := f) (s1 := 2) (s2 := 0) (as := [(0, (-19))]) (rest := []) kx_99_41 kp_99_31 (Or.inl rfl) rfl (tkf_0 hT8 hf) ki_10 kcl_10 rfl rfl (by decide) (m_10 (d := d + 1) (step := (-19)) hT8 hI8 hf hG8 (by omega)) (kGV (fun T12 M12 hT12 hI12 fr12 hG12 v11p => ?_))
    have hFm12 := hFm8.call fr12 rfl
    have tr13 := (fr12 5 2 rfl)
    have tr14 := (fr12 5 3 rfl)
    have tr15 := rg_5_2 hI12
    have tr16 := rg_5_3 hI12
    refine s_iload_n kx_99_44 rfl ?_
    exact s_iret kx_99_45 (Or.inr ⟨kq_99, by omega⟩) ⟨_, _, _, rfl, rfl, hT12, hI12, hFm12, hG12, (by omega)⟩
  · refine s_aload_n kx_99_6 rfl ?_
    refine r_getR (k := 4) (f := 0) (k2 := 5) kx_99_7 kp_99_12 (tk_4 hT) kf_7_0 (by decide) (rq_4_0 hI) ?_
    refine s_iconst (v := 5) kx_99_10 (by decide) ?_
    refine s_aload_n kx_99_11 rfl ?_
    refine r_getR (k := 4) (f := 0) (k2 := 5) kx_99_12 kp_99_12 (tk_4 hT) kf_7_0 (by decide) (rq_4_0 hI) ?_
    refine r_getI (k := 5) (f := 5) kx_99_15 kp_99_96 (tk_5 hT) kf_3_5 (fun _ => rfl) (rg_5_5 hI) (fun v17 v17e v17a v17b => ?_)
    refine s_callV2 (k := 5) (s1 := 3) (s2 := 0) (as := [(0, v17), (0, 5)]) (rest := []) kx_99_18 kp_99_99 (Or.inl rfl) rfl (tk_5 hT) ki_20 kcl_20 rfl rfl (by decide) (m_20 (d := d + 3) (kind := 5) (place := v17) hT hI) (kW (fun v18 M19 hI19 fr19 v18p => ?_))
    have hFm19 := hFm.call fr19 rfl
    have tr20 := (fr19 5 2 rfl)
    have tr21 := (fr19 5 3 rfl)
    have tr22 := (fr19 f 2 (by rcases hf with rfl | rfl | rfl | rfl <;> rfl))
    have tr23 := rg_5_2 hI19
    have tr24 := rg_5_3 hI19
    exact s_iret kx_99_21 (Or.inr ⟨kq_99, by omega⟩) ⟨_, _, _, rfl, rfl, hT, hI19, hFm19, (Gm.fr hG fr19 rfl), (by omega)⟩
theorem kx_98_0 : x_code k_P 98 0 = some (.aload_n 0, 1) := by decide +kernel
theorem kx_98_1 : x_code k_P 98 1 = some (.getfield 12, 3) := by decide +kernel
theorem kp_98_12 : x_pool k_P 98 12 = (1, 7, 0) := by decide +kernel
theorem kx_98_4 : x_code k_P 98 4 = some (.ldc 88, 2) := by decide +kernel
theorem kp_98_88 : x_pool k_P 98 88 = (7, 0, 486146048) := by decide +kernel
theorem kx_98_6 : x_code k_P 98 6 = some (.invokevirtual 80, 3) := by decide +kernel
theorem kp_98_80 : x_pool k_P 98 80 = (2, 22, 1) := by decide +kernel
theorem ki_22 : x_mci k_P 22 = 3 := by decide +kernel
theorem kcl_22 : x_maxL k_P 22 ≤ 60 ∧ 2 ≤ x_maxL k_P 22 := by decide +kernel
theorem kx_98_9 : x_code k_P 98 9 = some (.ifCond .eq 10, 3) := by decide +kernel
theorem kx_98_19 : x_code k_P 98 19 = some (.aload_n 0, 1) := by decide +kernel
theorem kx_98_20 : x_code k_P 98 20 = some (.getfield 12, 3) := by decide +kernel
theorem kx_98_23 : x_code k_P 98 23 = some (.bipush 91, 2) := by decide +kernel
theorem kx_98_25 : x_code k_P 98 25 = some (.invokevirtual 22, 3) := by decide +kernel
theorem kp_98_22 : x_pool k_P 98 22 = (2, 23, 1) := by decide +kernel
theorem kx_98_28 : x_code k_P 98 28 = some (.ifCond .eq 42, 3) := by decide +kernel
theorem kx_98_70 : x_code k_P 98 70 = some (.aload_n 0, 1) := by decide +kernel
theorem kx_98_71 : x_code k_P 98 71 = some (.getfield 12, 3) := by decide +kernel
theorem kx_98_74 : x_code k_P 98 74 = some (.ldc 92, 2) := by decide +kernel
theorem kp_98_92 : x_pool k_P 98 92 = (7, 0, 46530560) := by decide +kernel
theorem kx_98_76 : x_code k_P 98 76 = some (.invokevirtual 80, 3) := by decide +kernel
theorem kx_98_79 : x_code k_P 98 79 = some (.ifCond .eq 10, 3) := by decide +kernel
theorem kx_98_89 : x_code k_P 98 89 = some (.aload_n 0, 1) := by decide +kernel
theorem kx_98_90 : x_code k_P 98 90 = some (.aload_n 1, 1) := by decide +kernel
theorem kx_98_91 : x_code k_P 98 91 = some (.iload_n 2, 1) := by decide +kernel
theorem kx_98_92 : x_code k_P 98 92 = some (.invokevirtual 56, 3) := by decide +kernel
theorem kp_98_56 : x_pool k_P 98 56 = (2, 89, 2) := by decide +kernel
theorem kx_98_95 : x_code k_P 98 95 = some (.ifCond .eq 16, 3) := by decide +kernel
theorem kx_98_111 : x_code k_P 98 111 = some (.iconst 0, 1) := by decide +kernel
theorem kx_98_112 : x_code k_P 98 112 = some (.ireturn, 1) := by decide +kernel
theorem kq_98 : x_retk k_P 98 = 2 := by decide +kernel
theorem kx_98_98 : x_code k_P 98 98 = some (.aload_n 0, 1) := by decide +kernel
theorem kx_98_99 : x_code k_P 98 99 = some (.aload_n 1, 1) := by decide +kernel
theorem kx_98_100 : x_code k_P 98 100 = some (.iload_n 2, 1) := by decide +kernel
theorem kx_98_101 : x_code k_P 98 101 = some (.invokevirtual 93, 3) := by decide +kernel
theorem kp_98_93 : x_pool k_P 98 93 = (2, 100, 2) := by decide +kernel
theorem ki_100 : x_mci k_P 100 = 7 := by decide +kernel
theorem kcl_100 : x_maxL k_P 100 ≤ 60 ∧ 3 ≤ x_maxL k_P 100 := by decide +kernel
theorem kx_98_104 : x_code k_P 98 104 = some (.ifCond .eq 7, 3) := by decide +kernel
theorem kx_98_107 : x_code k_P 98 107 = some (.iconst 1, 1) := by decide +kernel
theorem kx_98_108 : x_code k_P 98 108 = some (.goto 4, 3) := by decide +kernel
theorem kx_98_82 : x_code k_P 98 82 = some (.aload_n 0, 1) := by decide +kernel
theorem kx_98_83 : x_code k_P 98 83 = some (.aload_n 1, 1) := by decide +kernel
theorem kx_98_84 : x_code k_P 98 84 = some (.iconst 1, 1) := by decide +kernel
theorem kx_98_85 : x_code k_P 98 85 = some (.invokevirtual 49, 3) := by decide +kernel
theorem kp_98_49 : x_pool k_P 98 49 = (2, 93, 2) := by decide +kernel
theorem kx_98_88 : x_code k_P 98 88 = some (.ireturn, 1) := by decide +kernel
theorem kx_98_31 : x_code k_P 98 31 = some (.aload_n 0, 1) := by decide +kernel
theorem kx_98_32 : x_code k_P 98 32 = some (.bipush 91, 2) := by decide +kernel
theorem kx_98_34 : x_code k_P 98 34 = some (.iload_n 2, 1) := by decide +kernel
theorem kx_98_35 : x_code k_P 98 35 = some (.invokevirtual 52, 3) := by decide +kernel
theorem kp_98_52 : x_pool k_P 98 52 = (2, 101, 2) := by decide +kernel
theorem kx_98_38 : x_code k_P 98 38 = some (.ifCond .eq 30, 3) := by decide +kernel
theorem kx_98_68 : x_code k_P 98 68 = some (.iconst 0, 1) := by decide +kernel
theorem kx_98_69 : x_code k_P 98 69 = some (.ireturn, 1) := by decide +kernel
theorem kx_98_41 : x_code k_P 98 41 = some (.aload_n 0, 1) := by decide +kernel
theorem kx_98_42 : x_code k_P 98 42 = some (.aload_n 1, 1) := by decide +kernel
theorem kx_98_43 : x_code k_P 98 43 = some (.iload_n 2, 1) := by decide +kernel
theorem kx_98_44 : x_code k_P 98 44 = some (.iconst 1, 1) := by decide +kernel
theorem kx_98_45 : x_code k_P 98 45 = some (.iadd, 1) := by decide +kernel
theorem kx_98_46 : x_code k_P 98 46 = some (.invokevirtual 73, 3) := by decide +kernel
theorem kp_98_73 : x_pool k_P 98 73 = (2, 96, 2) := by decide +kernel
theorem kx_98_49 : x_code k_P 98 49 = some (.ifCond .eq 19, 3) := by decide +kernel
theorem kx_98_52 : x_code k_P 98 52 = some (.aload_n 0, 1) := by decide +kernel
theorem kx_98_53 : x_code k_P 98 53 = some (.getfield 12, 3) := by decide +kernel
theorem kx_98_56 : x_code k_P 98 56 = some (.bipush 93, 2) := by decide +kernel
theorem kx_98_58 : x_code k_P 98 58 = some (.invokevirtual 59, 3) := by decide +kernel
theorem kp_98_59 : x_pool k_P 98 59 = (2, 24, 1) := by decide +kernel
theorem kx_98_61 : x_code k_P 98 61 = some (.ifCond .eq 7, 3) := by decide +kernel
theorem kx_98_64 : x_code k_P 98 64 = some (.iconst 1, 1) := by decide +kernel
theorem kx_98_65 : x_code k_P 98 65 = some (.goto 4, 3) := by decide +kernel
theorem kx_98_12 : x_code k_P 98 12 = some (.aload_n 0, 1) := by decide +kernel
theorem kx_98_13 : x_code k_P 98 13 = some (.aload_n 1, 1) := by decide +kernel
theorem kx_98_14 : x_code k_P 98 14 = some (.iload_n 2, 1) := by decide +kernel
theorem kx_98_15 : x_code k_P 98 15 = some (.invokevirtual 89, 3) := by decide +kernel
theorem kp_98_89 : x_pool k_P 98 89 = (2, 99, 2) := by decide +kernel
theorem ki_99 : x_mci k_P 99 = 7 := by decide +kernel
theorem kcl_99 : x_maxL k_P 99 ≤ 60 ∧ 3 ≤ x_maxL k_P 99 := by decide +kernel
theorem kx_98_18 : x_code k_P 98 18 = some (.ireturn, 1) := by decide +kernel
theorem m_98 {xs : Nat → Int} {Ln d : Nat} {T : List cK} {M : cM} (hT : TT T) (hI : Rng M) (h50 : M 5 0 = ((2 : Nat) : Int)) {f : Nat} (hf : fF f) (hG : Gm T M) {o k : Int} (hL : o < 7 → Lv xs Ln d (o + 1)) (p0 : 0 ≤ o) (p1 : 0 ≤ k) (p2 : M f 2 + k ≤ M 5 2 ∧ (M 5 3 = 0 ∨ M 5 3 = 5 ∨ M f 2 + k + 1 ≤ M 5 2)) : cC k_P xs Ln (d + 9) 98 [rf 4, rf f, (0, o)] (T, M) (qG T M fS_par 0 (fun v M1 => (v = 1 ∧ M1 f 2 + k ≤ M1 5 2 ∧ (M1 5 3 = 0 ∨ M1 5 3 = 5 ∨ M1 f 2 + k + 1 ≤ M1 5 2)) ∨ (v = 0 ∧ M1 f 2 + k ≤ M1 5 2))) := by
  show cP k_P xs Ln (d + 9) 98 0 [(0, rf 4), (1, rf f), (2, (0, o))] [] (T, M) _
  have hFm : Fr fS_par M M := Fr.refl
  have h52 := rg_5_2 hI
  have h53 := rg_5_3 hI
  refine s_aload_n kx_98_0 rfl ?_
  refine r_getR (k := 4) (f := 0) (k2 := 5) kx_98_1 kp_98_12 (tk_4 hT) kf_7_0 (by decide) (rq_4_0 hI) ?_
  refine s_ldc kx_98_4 kp_98_88 ?_
  refine s_callV2 (k := 5) (s1 := 2) (s2 := 0) (as := [(0, 486146048)]) (rest := []) kx_98_6 kp_98_80 (Or.inl rfl) rfl (tk_5 hT) ki_22 kcl_22 rfl rfl (by decide) (m_22 (d := d + 8) (w := 486146048) hT hI) (kF (fun v1 v1p => ?_))
  refine s_if_eq (t := 19) kx_98_9 (by decide) (fun hc2 => ?_) (fun hc2 => ?_)
  · replace v1p := v1p.resolve_left (by omega)
    refine s_aload_n kx_98_19 rfl ?_
    refine r_getR (k := 4) (f := 0) (k2 := 5) kx_98_20 kp_98_12 (tk_4 hT) kf_7_0 (by decide) (rq_4_0 hI) ?_
    refine s_bipush (v := 91) kx_98_23 (by decide) ?_
    refine s_callV2 (k := 5) (s1 := 2) (s2 := 0) (as := [(0, 91)]) (rest := []) kx_98_25 kp_98_22 (Or.inl rfl) rfl (tk_5 hT) ki_23 kcl_23 rfl rfl (by decide) (m_23 (d := d + 8) (c := 91) hT hI) (kF (fun v3 v3p => ?_))
    refine s_if_eq (t := 70) kx_98_28 (by decide) (fun hc4 => ?_) (fun hc4 => ?_)
    · replace v3p := v3p.resolve_left (by omega)
      refine s_aload_n kx_98_70 rfl ?_
      refine r_getR (k := 4) (f := 0) (k2 := 5) kx_98_71 kp_98_12 (tk_4 hT) kf_7_0 (by decide) (rq_4_0 hI) ?_
      refine s_ldc kx_98_74 kp_98_92 ?_
      refine s_callV2 (k := 5) (s1 := 2) (s2 := 0) (as := [(0, 46530560)]) (rest := []) kx_98_76 kp_98_80 (Or.inl rfl) rfl (tk_5 hT) ki_22 kcl_22 rfl rfl (by decide) (m_22 (d := d + 8) (w := 46530560) hT hI) (kF (fun v5 v5p => ?_))
      refine s_if_eq (t := 89) kx_98_79 (by decide) (fun hc6 => ?_) (fun hc6 => ?_)
      · replace v5p := v5p.resolve_left (by omega)
        refine s_aload_n kx_98_89 rfl ?_
        refine s_aload_n kx_98_90 rfl ?_
        refine s_iload_n kx_98_91 rfl ?_
        refine s_callV2 (k := 4) (s1 := 3) (s2 := 0) (as := [(0, o), rf f]) (rest := []) kx_98_92 kp_98_56 (Or.inl rfl) rfl (tk_4 hT) ki_89 kcl_89 rfl rfl (by decide) (m_89 (d := d + 1) (o := o) (k := k) hT hI h50 hf hG (fun h => (hL h).deep (by omega)) (by omega) (by omega) (by omega)) (kG (fun v7 T8 M8 hT8 hI8 fr8 hG8 v7p => ?_))
        have hFm8 := hFm.call fr8 rfl
        have tr9 := rg_5_2 hI8
        have tr10 := rg_5_3 hI8
        refine s_if_eq (t := 111) kx_98_95 (by decide) (fun hc11 => ?_) (fun hc11 => ?_)
        · replace v7p := v7p.resolve_left (by omega)
          refine s_iconst (v := 0) kx_98_111 (by decide) ?_
          exact s_iret kx_98_112 (Or.inr ⟨kq_98, by omega⟩) ⟨_, _, _, rfl, rfl, hT8, hI8, hFm8, hG8, (by omega)⟩
        · replace v7p := v7p.resolve_right (by omega)
          refine s_aload_n kx_98_98 rfl ?_
          refine s_aload_n kx_98_99 rfl ?_
          refine s_iload_n kx_98_100 rfl ?_
          refine s_callV2 (k := 4) (s1 := 3) (s2 := 0) (as := [(0, o), rf f]) (rest := []) kx_98_101 kp_98_93 (Or.inl rfl) rfl (tk_4 hT8) ki_100 kcl_100 rfl rfl (by decide) (m_100 (d := d) (o := o) (k := k) hT8 hI8 ((fr8 5 0 rfl).trans h50) hf hG8 (fun h => (hL h).deep (by omega)) (by omega) (by omega) (by omega)) (kG (fun v12 T13 M13 hT13 hI13 fr13 hG13 v12p => ?_))
          have hFm13 := hFm8.call fr13 rfl
          have tr14 := rg_5_2 hI13
          have tr15 := rg_5_3 hI13
          refine s_if_eq (t := 111) kx_98_104 (by decide) (fun hc16 => ?_) (fun hc16 => ?_)
          · replace v12p := v12p.resolve_left (by omega)
            refine s_iconst (v := 0) kx_98_111 (by decide) ?_
            exact s_iret kx_98_112 (Or.inr ⟨kq_98, by omega⟩) ⟨_, _, _, rfl, rfl, hT13, hI13, hFm13, hG13, (by omega)⟩
          · replace v12p := v12p.resolve_right (by omega)
            refine s_iconst (v := 1) kx_98_107 (by decide) ?_
            refine s_goto (t := 112) kx_98_108 (by decide) ?_
            exact s_iret kx_98_112 (Or.inr ⟨kq_98, by omega⟩) ⟨_, _, _, rfl, rfl, hT13, hI13, hFm13, hG13, (by omega)⟩
      · replace v5p := v5p.resolve_right (by omega)
        refine s_aload_n kx_98_82 rfl ?_
        refine s_aload_n kx_98_83 rfl ?_
        refine s_iconst (v := 1) kx_98_84 (by decide) ?_
        refine s_callV2 (k := 4) (s1 := 3) (s2 := 0) (as := [(0, 1), rf f]) (rest := []) kx_98_85 kp_98_49 (Or.inl rfl) rfl (tk_4 hT) ki_93 kcl_93 rfl rfl (by decide) (m_93 (d := d + 5) (step := 1) (k := k) hT hI h50 hf hG (by omega) (by omega)) (kG (fun v17 T18 M18 hT18 hI18 fr18 hG18 v17p => ?_))
        have hFm18 := hFm.call fr18 rfl
        have tr19 := rg_5_2 hI18
        have tr20 := rg_5_3 hI18
        exact s_iret kx_98_88 (Or.inr ⟨kq_98, by omega⟩) ⟨_, _, _, rfl, rfl, hT18, hI18, hFm18, hG18, (by omega)⟩
    · replace v3p := v3p.resolve_right (by omega)
      refine s_aload_n kx_98_31 rfl ?_
      refine s_bipush (v := 91) kx_98_32 (by decide) ?_
      refine s_iload_n kx_98_34 rfl ?_
      refine s_callV2 (k := 4) (s1 := 3) (s2 := 0) (as := [(0, o), (0, 91)]) (rest := []) kx_98_35 kp_98_52 (Or.inl rfl) rfl (tk_4 hT) ki_101 kcl_101 rfl rfl (by decide) (m_101 (d := d + 5) (c := 91) (o := o) hT hI h50) (kW (fun v21 M22 hI22 fr22 v21p => ?_))
      have hFm22 := hFm.call fr22 rfl
      have tr23 := (fr22 f 2 (by rcases hf with rfl | rfl | rfl | rfl <;> rfl))
      have tr24 := rg_5_2 hI22
      have tr25 := rg_5_3 hI22
      refine s_if_eq (t := 68) kx_98_38 (by decide) (fun hc26 => ?_) (fun hc26 => ?_)
      · replace v21p := v21p.resolve_left (by omega)
        refine s_iconst (v := 0) kx_98_68 (by decide) ?_
        exact s_iret kx_98_69 (Or.inr ⟨kq_98, by omega⟩) ⟨_, _, _, rfl, rfl, hT, hI22, hFm22, (Gm.fr hG fr22 rfl), (by omega)⟩
      · replace v21p := v21p.resolve_right (by omega)
        refine s_aload_n kx_98_41 rfl ?_
        refine s_aload_n kx_98_42 rfl ?_
        refine s_iload_n kx_98_43 rfl ?_
        refine s_iconst (v := 1) kx_98_44 (by decide) ?_
        refine r_add kx_98_45 ⟨by omega, by omega⟩ ?_
        refine s_callV2 (k := 4) (s1 := 3) (s2 := 0) (as := [(0, (o + 1)), rf f]) (rest := []) kx_98_46 kp_98_73 (Or.inl rfl) rfl (tk_4 hT) ki_96 kcl_96 rfl rfl (by decide) (cC.deep ((hL (by omega)).2.1 (k := k) hT hI22 ((fr22 5 0 rfl).trans h50) hf (Gm.fr hG fr22 rfl) (by omega) (by omega)) (by omega)) (kG (fun v27 T28 M28 hT28 hI28 fr28 hG28 v27p => ?_))
        have hFm28 := hFm22.call fr28 rfl
        have tr29 := rg_5_2 hI28
        have tr30 := rg_5_3 hI28
        refine s_if_eq (t := 68) kx_98_49 (by decide) (fun hc31 => ?_) (fun hc31 => ?_)
        · replace v27p := v27p.resolve_left (by omega)
          refine s_iconst (v := 0) kx_98_68 (by decide) ?_
          exact s_iret kx_98_69 (Or.inr ⟨kq_98, by omega⟩) ⟨_, _, _, rfl, rfl, hT28, hI28, hFm28, hG28, (by omega)⟩
        · replace v27p := v27p.resolve_right (by omega)
          refine s_aload_n kx_98_52 rfl ?_
          refine r_getR (k := 4) (f := 0) (k2 := 5) kx_98_53 kp_98_12 (tk_4 hT28) kf_7_0 (by decide) (rq_4_0 hI28) ?_
          refine s_bipush (v := 93) kx_98_56 (by decide) ?_
          refine s_callV2 (k := 5) (s1 := 2) (s2 := 0) (as := [(0, 93)]) (rest := []) kx_98_58 kp_98_59 (Or.inl rfl) rfl (tk_5 hT28) ki_24 kcl_24 rfl rfl (by decide) (m_24 (d := d + 5) (c := 93) hT28 hI28 ((fr28 5 0 rfl).trans ((fr22 5 0 rfl).trans h50))) (kW (fun v32 M33 hI33 fr33 v32p => ?_))
          have hFm33 := hFm28.call fr33 rfl
          have tr34 := (fr33 f 2 (by rcases hf with rfl | rfl | rfl | rfl <;> rfl))
          have tr35 := rg_5_2 hI33
          have tr36 := rg_5_3 hI33
          refine s_if_eq (t := 68) kx_98_61 (by decide) (fun hc37 => ?_) (fun hc37 => ?_)
          · replace v32p := v32p.resolve_left (by omega)
            refine s_iconst (v := 0) kx_98_68 (by decide) ?_
            exact s_iret kx_98_69 (Or.inr ⟨kq_98, by omega⟩) ⟨_, _, _, rfl, rfl, hT28, hI33, hFm33, (Gm.fr hG28 fr33 rfl), (by omega)⟩
          · replace v32p := v32p.resolve_right (by omega)
            refine s_iconst (v := 1) kx_98_64 (by decide) ?_
            refine s_goto (t := 69) kx_98_65 (by decide) ?_
            exact s_iret kx_98_69 (Or.inr ⟨kq_98, by omega⟩) ⟨_, _, _, rfl, rfl, hT28, hI33, hFm33, (Gm.fr hG28 fr33 rfl), (by omega)⟩
  · replace v1p := v1p.resolve_right (by omega)
    refine s_aload_n kx_98_12 rfl ?_
    refine s_aload_n kx_98_13 rfl ?_
    refine s_iload_n kx_98_14 rfl ?_
    refine s_callV2 (k := 4) (s1 := 3) (s2 := 0) (as := [(0, o), rf f]) (rest := []) kx_98_15 kp_98_89 (Or.inl rfl) rfl (tk_4 hT) ki_99 kcl_99 rfl rfl (by decide) (m_99 (d := d + 4) (o := o) (k := k) hT hI h50 hf hG (fun h => (hL h).deep (by omega)) (by omega) (by omega) (by omega)) (kG (fun v38 T39 M39 hT39 hI39 fr39 hG39 v38p => ?_))
    have hFm39 := hFm.call fr39 rfl
    have tr40 := rg_5_2 hI39
    have tr41 := rg_5_3 hI39
    exact s_iret kx_98_18 (Or.inr ⟨kq_98, by omega⟩) ⟨_, _, _, rfl, rfl, hT39, hI39, hFm39, hG39, (by omega)⟩
theorem kx_97_0 : x_code k_P 97 0 = some (.aload_n 0, 1) := by decide +kernel
theorem kx_97_1 : x_code k_P 97 1 = some (.aload_n 1, 1) := by decide +kernel
theorem kx_97_2 : x_code k_P 97 2 = some (.iload_n 2, 1) := by decide +kernel
theorem kx_97_3 : x_code k_P 97 3 = some (.invokevirtual 84, 3) := by decide +kernel
theorem kp_97_84 : x_pool k_P 97 84 = (2, 98, 2) := by decide +kernel
theorem kx_97_6 : x_code k_P 97 6 = some (.ifCond .ne 5, 3) := by decide +kernel
theorem kx_97_11 : x_code k_P 97 11 = some (.iconst 0, 1) := by decide +kernel
theorem kx_97_12 : x_code k_P 97 12 = some (.istore_n 3, 1) := by decide +kernel
theorem km_97_3 : 3 < x_maxL k_P 97 := by decide +kernel
theorem kx_97_13 : x_code k_P 97 13 = some (.iload_n 3, 1) := by decide +kernel
theorem kx_97_14 : x_code k_P 97 14 = some (.sipush 1600, 3) := by decide +kernel
theorem kx_97_17 : x_code k_P 97 17 = some (.if_icmp .ge 45, 3) := by decide +kernel
theorem kx_97_62 : x_code k_P 97 62 = some (.iconst 1, 1) := by decide +kernel
theorem kx_97_63 : x_code k_P 97 63 = some (.ireturn, 1) := by decide +kernel
theorem kq_97 : x_retk k_P 97 = 2 := by decide +kernel
theorem kx_97_20 : x_code k_P 97 20 = some (.aload_n 0, 1) := by decide +kernel
theorem kx_97_21 : x_code k_P 97 21 = some (.getfield 12, 3) := by decide +kernel
theorem kp_97_12 : x_pool k_P 97 12 = (1, 7, 0) := by decide +kernel
theorem kx_97_24 : x_code k_P 97 24 = some (.ldc 87, 2) := by decide +kernel
theorem kp_97_87 : x_pool k_P 97 87 = (7, 0, 48365568) := by decide +kernel
theorem kx_97_26 : x_code k_P 97 26 = some (.invokevirtual 80, 3) := by decide +kernel
theorem kp_97_80 : x_pool k_P 97 80 = (2, 22, 1) := by decide +kernel
theorem kx_97_29 : x_code k_P 97 29 = some (.ifCond .eq 33, 3) := by decide +kernel
theorem kx_97_32 : x_code k_P 97 32 = some (.aload_n 0, 1) := by decide +kernel
theorem kx_97_33 : x_code k_P 97 33 = some (.getfield 12, 3) := by decide +kernel
theorem kx_97_36 : x_code k_P 97 36 = some (.invokevirtual 28, 3) := by decide +kernel
theorem kp_97_28 : x_pool k_P 97 28 = (2, 26, 0) := by decide +kernel
theorem kx_97_39 : x_code k_P 97 39 = some (.aload_n 0, 1) := by decide +kernel
theorem kx_97_40 : x_code k_P 97 40 = some (.aload_n 1, 1) := by decide +kernel
theorem kx_97_41 : x_code k_P 97 41 = some (.iload_n 2, 1) := by decide +kernel
theorem kx_97_42 : x_code k_P 97 42 = some (.invokevirtual 84, 3) := by decide +kernel
theorem kx_97_45 : x_code k_P 97 45 = some (.ifCond .ne 5, 3) := by decide +kernel
theorem kx_97_50 : x_code k_P 97 50 = some (.aload_n 1, 1) := by decide +kernel
theorem kx_97_51 : x_code k_P 97 51 = some (.bipush (-17), 2) := by decide +kernel
theorem kx_97_53 : x_code k_P 97 53 = some (.invokevirtual 31, 3) := by decide +kernel
theorem kp_97_31 : x_pool k_P 97 31 = (2, 10, 1) := by decide +kernel
theorem kx_97_56 : x_code k_P 97 56 = some (.iinc 3 1, 3) := by decide +kernel
theorem kx_97_59 : x_code k_P 97 59 = some (.goto (-46), 3) := by decide +kernel
theorem kx_97_48 : x_code k_P 97 48 = some (.iconst 0, 1) := by decide +kernel
theorem kx_97_49 : x_code k_P 97 49 = some (.ireturn, 1) := by decide +kernel
theorem kx_97_9 : x_code k_P 97 9 = some (.iconst 0, 1) := by decide +kernel
theorem kx_97_10 : x_code k_P 97 10 = some (.ireturn, 1) := by decide +kernel
def fS_97_l13 : List (Nat × Nat) := [(114, 99999), (19, 1), (19, 2), (21, 99999), (22, 1), (22, 2), (24, 99999), (36, 1), (36, 2), (38, 99999), (39, 1), (39, 2), (41, 99999), (5, 2), (5, 3), (5, 4), (5, 5), (5, 6), (5, 7)]
theorem m_97 {xs : Nat → Int} {Ln d : Nat} {T : List cK} {M : cM} (hT : TT T) (hI : Rng M) (h50 : M 5 0 = ((2 : Nat) : Int)) {f : Nat} (hf : fF f) (hG : Gm T M) {o k : Int} (hL : o < 7 → Lv xs Ln d (o + 1)) (p0 : 0 ≤ o) (p1 : 0 ≤ k) (p2 : M f 2 + k ≤ M 5 2 ∧ (M 5 3 = 0 ∨ M 5 3 = 5 ∨ M f 2 + k + 1 ≤ M 5 2)) : cC k_P xs Ln (d + 10) 97 [rf 4, rf f, (0, o)] (T, M) (qG T M fS_par 0 (fun v M1 => (v = 1 ∧ M1 f 2 + k ≤ M1 5 2 ∧ (M1 5 3 = 0 ∨ M1 5 3 = 5 ∨ M1 f 2 + k + 1 ≤ M1 5 2)) ∨ (v = 0 ∧ M1 f 2 + k ≤ M1 5 2))) := by
  show cP k_P xs Ln (d + 10) 97 0 [(0, rf 4), (1, rf f), (2, (0, o))] [] (T, M) _
  have hFm : Fr fS_par M M := Fr.refl
  have h52 := rg_5_2 hI
  have h53 := rg_5_3 hI
  refine s_aload_n kx_97_0 rfl ?_
  refine s_aload_n kx_97_1 rfl ?_
  refine s_iload_n kx_97_2 rfl ?_
  refine s_callV2 (k := 4) (s1 := 3) (s2 := 0) (as := [(0, o), rf f]) (rest := []) kx_97_3 kp_97_84 (Or.inl rfl) rfl (tk_4 hT) ki_98 kcl_98 rfl rfl (by decide) (m_98 (d := d) (o := o) (k := k) hT hI h50 hf hG (fun h => (hL h).deep (by omega)) (by omega) (by omega) (by omega)) (kG (fun v1 T2 M2 hT2 hI2 fr2 hG2 v1p => ?_))
  have hFm2 := hFm.call fr2 rfl
  have tr3 := rg_5_2 hI2
  have tr4 := rg_5_3 hI2
  refine s_if_ne (t := 11) kx_97_6 (by decide) (fun hc5 => ?_) (fun hc5 => ?_)
  · replace v1p := v1p.resolve_right (by omega)
    refine s_iconst (v := 0) kx_97_11 (by decide) ?_
    refine s_istore_n kx_97_12 km_97_3 rfl ?_
    have key8 : ∀ n9 : Nat, ∀ (x3_6 : Int), ∀ T7 : List cK, TT T7 → ∀ M7 : cM, Rng M7 → Fr fS_par M M7 → Fr fS_97_l13 M2 M7 → Gm T7 M7 → (0 ≤ x3_6) → (M7 f 2 + k ≤ M7 5 2) → ((M7 5 3 = 0 ∨ M7 5 3 = 5 ∨ M7 f 2 + k + 1 ≤ M7 5 2)) → (2147483647 - x3_6).toNat < n9 → cP k_P xs Ln (d + 10) 97 13 [(0, rf 4), (1, rf f), (2, (0, o)), (3, (0, x3_6))] [] (T7, M7) (qG T M fS_par 0 (fun v M1 => (v = 1 ∧ M1 f 2 + k ≤ M1 5 2 ∧ (M1 5 3 = 0 ∨ M1 5 3 = 5 ∨ M1 f 2 + k + 1 ≤ M1 5 2)) ∨ (v = 0 ∧ M1 f 2 + k ≤ M1 5 2))) := by
      intro n9
      induction n9 with
      | zero => intro x3_6 T7 hT7 M7 hI7 hFm7 fl7 hG7 i10 i11 i12 hm13; exact absurd hm13 (Nat.not_lt_zero _)
      | succ n9 ih14 =>
        intro x3_6 T7 hT7 M7 hI7 hFm7 fl7 hG7 i10 i11 i12 hm13
        have tr15 := rg_5_2 hI7
        have tr16 := rg_5_3 hI7
        refine s_iload_n kx_97_13 rfl ?_
        refine s_sipush (v := 1600) kx_97_14 (by decide) ?_
        refine s_icmp_ge (t := 62) kx_97_17 (by decide) (fun hc17 => ?_) (fun hc17 => ?_)
        · refine s_iconst (v := 1) kx_97_62 (by decide) ?_
          exact s_iret kx_97_63 (Or.inr ⟨kq_97, by omega⟩) ⟨_, _, _, rfl, rfl, hT7, hI7, hFm7, hG7, (by omega)⟩
        · refine s_aload_n kx_97_20 rfl ?_
          refine r_getR (k := 4) (f := 0) (k2 := 5) kx_97_21 kp_97_12 (tk_4 hT7) kf_7_0 (by decide) (rq_4_0 hI7) ?_
          refine s_ldc kx_97_24 kp_97_87 ?_
          refine s_callV2 (k := 5) (s1 := 2) (s2 := 0) (as := [(0, 48365568)]) (rest := []) kx_97_26 kp_97_80 (Or.inl rfl) rfl (tk_5 hT7) ki_22 kcl_22 rfl rfl (by decide) (m_22 (d := d + 9) (w := 48365568) hT7 hI7) (kF (fun v18 v18p => ?_))
          refine s_if_eq (t := 62) kx_97_29 (by decide) (fun hc19 => ?_) (fun hc19 => ?_)
          · replace v18p := v18p.resolve_left (by omega)
            refine s_iconst (v := 1) kx_97_62 (by decide) ?_
            exact s_iret kx_97_63 (Or.inr ⟨kq_97, by omega⟩) ⟨_, _, _, rfl, rfl, hT7, hI7, hFm7, hG7, (by omega)⟩
          · replace v18p := v18p.resolve_right (by omega)
            refine s_aload_n kx_97_32 rfl ?_
            refine r_getR (k := 4) (f := 0) (k2 := 5) kx_97_33 kp_97_12 (tk_4 hT7) kf_7_0 (by decide) (rq_4_0 hI7) ?_
            refine s_callV2 (k := 5) (s1 := 1) (s2 := 0) (as := []) (rest := []) kx_97_36 kp_97_28 (Or.inl rfl) rfl (tk_5 hT7) ki_26 kcl_26 rfl rfl (by decide) (m_26 (d := d + 7) hT7 hI7 ((fl7 5 0 rfl).trans ((fr2 5 0 rfl).trans h50))) (kV (fun M21 hI21 fr21 v20p => ?_))
            have hFm21 := hFm7.call fr21 rfl
            have hFl1321 := fl7.call fr21 rfl
            have tr22 := (fr21 f 2 (by rcases hf with rfl | rfl | rfl | rfl <;> rfl))
            have tr23 := rg_5_2 hI21
            have tr24 := rg_5_3 hI21
            refine s_aload_n kx_97_39 rfl ?_
            refine s_aload_n kx_97_40 rfl ?_
            refine s_iload_n kx_97_41 rfl ?_
            refine s_callV2 (k := 4) (s1 := 3) (s2 := 0) (as := [(0, o), rf f]) (rest := []) kx_97_42 kp_97_84 (Or.inl rfl) rfl (tk_4 hT7) ki_98 kcl_98 rfl rfl (by decide) (m_98 (d := d) (o := o) (k := k + 1) hT7 hI21 ((fr21 5 0 rfl).trans ((fl7 5 0 rfl).trans ((fr2 5 0 rfl).trans h50))) hf (Gm.fr hG7 fr21 rfl) (fun h => (hL h).deep (by omega)) (by omega) (by omega) (by omega)) (kG (fun v25 T26 M26 hT26 hI26 fr26 hG26 v25p => ?_))
            have hFm26 := hFm21.call fr26 rfl
            have hFl1326 := hFl1321.call fr26 rfl
            have tr27 := rg_5_2 hI26
            have tr28 := rg_5_3 hI26
            refine s_if_ne (t := 50) kx_97_45 (by decide) (fun hc29 => ?_) (fun hc29 => ?_)
            · replace v25p := v25p.resolve_right (by omega)
              refine s_aload_n kx_97_50 rfl ?_
              refine s_bipush (v := (-17)) kx_97_51 (by decide) ?_
              refine s_callV2 (k := f) (s1 := 2) (s2 := 0) (as := [(0, (-17))]) (rest := []) kx_97_53 kp_97_31 (Or.inl rfl) rfl (tkf_0 hT26 hf) ki_10 kcl_10 rfl rfl (by decide) (m_10 (d := d + 7) (step := (-17)) hT26 hI26 hf hG26 (by omega)) (kGV (fun T31 M31 hT31 hI31 fr31 hG31 v30p => ?_))
              have hFm31 := hFm26.call fr31 rfl
              have hFl1331 := hFl1326.call fr31 rfl
              have tr32 := (fr31 5 2 rfl)
              have tr33 := (fr31 5 3 rfl)
              have tr34 := rg_5_2 hI31
              have tr35 := rg_5_3 hI31
              refine r_iinc kx_97_56 rfl km_97_3 (by decide) ⟨by omega, by omega⟩ rfl ?_
              refine s_goto (t := 13) kx_97_59 (by decide) ?_
              exact cP.wk (lS1 rfl (lS1 rfl (lS1 rfl (lS1 rfl lS0)))) (ih14 (x3_6 + 1) T31 hT31 M31 hI31 hFm31 hFl1331 hG31 (by omega) (by omega) (by omega) (by omega))
            · replace v25p := v25p.resolve_left (by omega)
              refine s_iconst (v := 0) kx_97_48 (by decide) ?_
              exact s_iret kx_97_49 (Or.inr ⟨kq_97, by omega⟩) ⟨_, _, _, rfl, rfl, hT26, hI26, hFm26, hG26, (by omega)⟩
    exact cP.wk (lS1 rfl (lS1 rfl (lS1 rfl (lS1 rfl lS0)))) (key8 _ 0 T2 hT2 M2 hI2 hFm2 Fr.refl hG2 (by omega) (by omega) (by omega) (Nat.lt_succ_self _))
  · replace v1p := v1p.resolve_left (by omega)
    refine s_iconst (v := 0) kx_97_9 (by decide) ?_
    exact s_iret kx_97_10 (Or.inr ⟨kq_97, by omega⟩) ⟨_, _, _, rfl, rfl, hT2, hI2, hFm2, hG2, (by omega)⟩
theorem kx_96_0 : x_code k_P 96 0 = some (.aload_n 0, 1) := by decide +kernel
theorem kx_96_1 : x_code k_P 96 1 = some (.aload_n 1, 1) := by decide +kernel
theorem kx_96_2 : x_code k_P 96 2 = some (.iload_n 2, 1) := by decide +kernel
theorem kx_96_3 : x_code k_P 96 3 = some (.invokevirtual 76, 3) := by decide +kernel
theorem kp_96_76 : x_pool k_P 96 76 = (2, 97, 2) := by decide +kernel
theorem ki_97 : x_mci k_P 97 = 7 := by decide +kernel
theorem kcl_97 : x_maxL k_P 97 ≤ 60 ∧ 3 ≤ x_maxL k_P 97 := by decide +kernel
theorem kx_96_6 : x_code k_P 96 6 = some (.ifCond .ne 5, 3) := by decide +kernel
theorem kx_96_11 : x_code k_P 96 11 = some (.iconst 0, 1) := by decide +kernel
theorem kx_96_12 : x_code k_P 96 12 = some (.istore_n 3, 1) := by decide +kernel
theorem km_96_3 : 3 < x_maxL k_P 96 := by decide +kernel
theorem kx_96_13 : x_code k_P 96 13 = some (.iload_n 3, 1) := by decide +kernel
theorem kx_96_14 : x_code k_P 96 14 = some (.sipush 1600, 3) := by decide +kernel
theorem kx_96_17 : x_code k_P 96 17 = some (.if_icmp .ge 45, 3) := by decide +kernel
theorem kx_96_62 : x_code k_P 96 62 = some (.iconst 1, 1) := by decide +kernel
theorem kx_96_63 : x_code k_P 96 63 = some (.ireturn, 1) := by decide +kernel
theorem kq_96 : x_retk k_P 96 = 2 := by decide +kernel
theorem kx_96_20 : x_code k_P 96 20 = some (.aload_n 0, 1) := by decide +kernel
theorem kx_96_21 : x_code k_P 96 21 = some (.getfield 12, 3) := by decide +kernel
theorem kp_96_12 : x_pool k_P 96 12 = (1, 7, 0) := by decide +kernel
theorem kx_96_24 : x_code k_P 96 24 = some (.ldc 79, 2) := by decide +kernel
theorem kp_96_79 : x_pool k_P 96 79 = (7, 0, 522190848) := by decide +kernel
theorem kx_96_26 : x_code k_P 96 26 = some (.invokevirtual 80, 3) := by decide +kernel
theorem kp_96_80 : x_pool k_P 96 80 = (2, 22, 1) := by decide +kernel
theorem kx_96_29 : x_code k_P 96 29 = some (.ifCond .eq 33, 3) := by decide +kernel
theorem kx_96_32 : x_code k_P 96 32 = some (.aload_n 0, 1) := by decide +kernel
theorem kx_96_33 : x_code k_P 96 33 = some (.getfield 12, 3) := by decide +kernel
theorem kx_96_36 : x_code k_P 96 36 = some (.invokevirtual 28, 3) := by decide +kernel
theorem kp_96_28 : x_pool k_P 96 28 = (2, 26, 0) := by decide +kernel
theorem kx_96_39 : x_code k_P 96 39 = some (.aload_n 0, 1) := by decide +kernel
theorem kx_96_40 : x_code k_P 96 40 = some (.aload_n 1, 1) := by decide +kernel
theorem kx_96_41 : x_code k_P 96 41 = some (.iload_n 2, 1) := by decide +kernel
theorem kx_96_42 : x_code k_P 96 42 = some (.invokevirtual 76, 3) := by decide +kernel
theorem kx_96_45 : x_code k_P 96 45 = some (.ifCond .ne 5, 3) := by decide +kernel
theorem kx_96_50 : x_code k_P 96 50 = some (.aload_n 1, 1) := by decide +kernel
theorem kx_96_51 : x_code k_P 96 51 = some (.bipush (-18), 2) := by decide +kernel
theorem kx_96_53 : x_code k_P 96 53 = some (.invokevirtual 31, 3) := by decide +kernel
theorem kp_96_31 : x_pool k_P 96 31 = (2, 10, 1) := by decide +kernel
theorem kx_96_56 : x_code k_P 96 56 = some (.iinc 3 1, 3) := by decide +kernel
theorem kx_96_59 : x_code k_P 96 59 = some (.goto (-46), 3) := by decide +kernel
theorem kx_96_48 : x_code k_P 96 48 = some (.iconst 0, 1) := by decide +kernel
theorem kx_96_49 : x_code k_P 96 49 = some (.ireturn, 1) := by decide +kernel
theorem kx_96_9 : x_code k_P 96 9 = some (.iconst 0, 1) := by decide +kernel
theorem kx_96_10 : x_code k_P 96 10 = some (.ireturn, 1) := by decide +kernel
def fS_96_l13 : List (Nat × Nat) := [(114, 99999), (19, 1), (19, 2), (21, 99999), (22, 1), (22, 2), (24, 99999), (36, 1), (36, 2), (38, 99999), (39, 1), (39, 2), (41, 99999), (5, 2), (5, 3), (5, 4), (5, 5), (5, 6), (5, 7)]
theorem m_96 {xs : Nat → Int} {Ln d : Nat} {T : List cK} {M : cM} (hT : TT T) (hI : Rng M) (h50 : M 5 0 = ((2 : Nat) : Int)) {f : Nat} (hf : fF f) (hG : Gm T M) {o k : Int} (hL : o < 7 → Lv xs Ln d (o + 1)) (p0 : 0 ≤ o) (p1 : 0 ≤ k) (p2 : M f 2 + k ≤ M 5 2 ∧ (M 5 3 = 0 ∨ M 5 3 = 5 ∨ M f 2 + k + 1 ≤ M 5 2)) : cC k_P xs Ln (d + 11) 96 [rf 4, rf f, (0, o)] (T, M) (qG T M fS_par 0 (fun v M1 => (v = 1 ∧ M1 f 2 + k ≤ M1 5 2 ∧ (M1 5 3 = 0 ∨ M1 5 3 = 5 ∨ M1 f 2 + k + 1 ≤ M1 5 2)) ∨ (v = 0 ∧ M1 f 2 + k ≤ M1 5 2))) := by
  show cP k_P xs Ln (d + 11) 96 0 [(0, rf 4), (1, rf f), (2, (0, o))] [] (T, M) _
  have hFm : Fr fS_par M M := Fr.refl
  have h52 := rg_5_2 hI
  have h53 := rg_5_3 hI
  refine s_aload_n kx_96_0 rfl ?_
  refine s_aload_n kx_96_1 rfl ?_
  refine s_iload_n kx_96_2 rfl ?_
  refine s_callV2 (k := 4) (s1 := 3) (s2 := 0) (as := [(0, o), rf f]) (rest := []) kx_96_3 kp_96_76 (Or.inl rfl) rfl (tk_4 hT) ki_97 kcl_97 rfl rfl (by decide) (m_97 (d := d) (o := o) (k := k) hT hI h50 hf hG (fun h => (hL h).deep (by omega)) (by omega) (by omega) (by omega)) (kG (fun v1 T2 M2 hT2 hI2 fr2 hG2 v1p => ?_))
  have hFm2 := hFm.call fr2 rfl
  have tr3 := rg_5_2 hI2
  have tr4 := rg_5_3 hI2
  refine s_if_ne (t := 11) kx_96_6 (by decide) (fun hc5 => ?_) (fun hc5 => ?_)
  · replace v1p := v1p.resolve_right (by omega)
    refine s_iconst (v := 0) kx_96_11 (by decide) ?_
    refine s_istore_n kx_96_12 km_96_3 rfl ?_
    have key8 : ∀ n9 : Nat, ∀ (x3_6 : Int), ∀ T7 : List cK, TT T7 → ∀ M7 : cM, Rng M7 → Fr fS_par M M7 → Fr fS_96_l13 M2 M7 → Gm T7 M7 → (0 ≤ x3_6) → (M7 f 2 + k ≤ M7 5 2) → ((M7 5 3 = 0 ∨ M7 5 3 = 5 ∨ M7 f 2 + k + 1 ≤ M7 5 2)) → (2147483647 - x3_6).toNat < n9 → cP k_P xs Ln (d + 11) 96 13 [(0, rf 4), (1, rf f), (2, (0, o)), (3, (0, x3_6))] [] (T7, M7) (qG T M fS_par 0 (fun v M1 => (v = 1 ∧ M1 f 2 + k ≤ M1 5 2 ∧ (M1 5 3 = 0 ∨ M1 5 3 = 5 ∨ M1 f 2 + k + 1 ≤ M1 5 2)) ∨ (v = 0 ∧ M1 f 2 + k ≤ M1 5 2))) := by
      intro n9
      induction n9 with
      | zero => intro x3_6 T7 hT7 M7 hI7 hFm7 fl7 hG7 i10 i11 i12 hm13; exact absurd hm13 (Nat.not_lt_zero _)
      | succ n9 ih14 =>
        intro x3_6 T7 hT7 M7 hI7 hFm7 fl7 hG7 i10 i11 i12 hm13
        have tr15 := rg_5_2 hI7
        have tr16 := rg_5_3 hI7
        refine s_iload_n kx_96_13 rfl ?_
        refine s_sipush (v := 1600) kx_96_14 (by decide) ?_
        refine s_icmp_ge (t := 62) kx_96_17 (by decide) (fun hc17 => ?_) (fun hc17 => ?_)
        · refine s_iconst (v := 1) kx_96_62 (by decide) ?_
          exact s_iret kx_96_63 (Or.inr ⟨kq_96, by omega⟩) ⟨_, _, _, rfl, rfl, hT7, hI7, hFm7, hG7, (by omega)⟩
        · refine s_aload_n kx_96_20 rfl ?_
          refine r_getR (k := 4) (f := 0) (k2 := 5) kx_96_21 kp_96_12 (tk_4 hT7) kf_7_0 (by decide) (rq_4_0 hI7) ?_
          refine s_ldc kx_96_24 kp_96_79 ?_
          refine s_callV2 (k := 5) (s1 := 2) (s2 := 0) (as := [(0, 522190848)]) (rest := []) kx_96_26 kp_96_80 (Or.inl rfl) rfl (tk_5 hT7) ki_22 kcl_22 rfl rfl (by decide) (m_22 (d := d + 10) (w := 522190848) hT7 hI7) (kF (fun v18 v18p => ?_))
          refine s_if_eq (t := 62) kx_96_29 (by decide) (fun hc19 => ?_) (fun hc19 => ?_)
          · replace v18p := v18p.resolve_left (by omega)
            refine s_iconst (v := 1) kx_96_62 (by decide) ?_
            exact s_iret kx_96_63 (Or.inr ⟨kq_96, by omega⟩) ⟨_, _, _, rfl, rfl, hT7, hI7, hFm7, hG7, (by omega)⟩
          · replace v18p := v18p.resolve_right (by omega)
            refine s_aload_n kx_96_32 rfl ?_
            refine r_getR (k := 4) (f := 0) (k2 := 5) kx_96_33 kp_96_12 (tk_4 hT7) kf_7_0 (by decide) (rq_4_0 hI7) ?_
            refine s_callV2 (k := 5) (s1 := 1) (s2 := 0) (as := []) (rest := []) kx_96_36 kp_96_28 (Or.inl rfl) rfl (tk_5 hT7) ki_26 kcl_26 rfl rfl (by decide) (m_26 (d := d + 8) hT7 hI7 ((fl7 5 0 rfl).trans ((fr2 5 0 rfl).trans h50))) (kV (fun M21 hI21 fr21 v20p => ?_))
            have hFm21 := hFm7.call fr21 rfl
            have hFl1321 := fl7.call fr21 rfl
            have tr22 := (fr21 f 2 (by rcases hf with rfl | rfl | rfl | rfl <;> rfl))
            have tr23 := rg_5_2 hI21
            have tr24 := rg_5_3 hI21
            refine s_aload_n kx_96_39 rfl ?_
            refine s_aload_n kx_96_40 rfl ?_
            refine s_iload_n kx_96_41 rfl ?_
            refine s_callV2 (k := 4) (s1 := 3) (s2 := 0) (as := [(0, o), rf f]) (rest := []) kx_96_42 kp_96_76 (Or.inl rfl) rfl (tk_4 hT7) ki_97 kcl_97 rfl rfl (by decide) (m_97 (d := d) (o := o) (k := k + 1) hT7 hI21 ((fr21 5 0 rfl).trans ((fl7 5 0 rfl).trans ((fr2 5 0 rfl).trans h50))) hf (Gm.fr hG7 fr21 rfl) (fun h => (hL h).deep (by omega)) (by omega) (by omega) (by omega)) (kG (fun v25 T26 M26 hT26 hI26 fr26 hG26 v25p => ?_))
            have hFm26 := hFm21.call fr26 rfl
            have hFl1326 := hFl1321.call fr26 rfl
            have tr27 := rg_5_2 hI26
            have tr28 := rg_5_3 hI26
            refine s_if_ne (t := 50) kx_96_45 (by decide) (fun hc29 => ?_) (fun hc29 => ?_)
            · replace v25p := v25p.resolve_right (by omega)
              refine s_aload_n kx_96_50 rfl ?_
              refine s_bipush (v := (-18)) kx_96_51 (by decide) ?_
              refine s_callV2 (k := f) (s1 := 2) (s2 := 0) (as := [(0, (-18))]) (rest := []) kx_96_53 kp_96_31 (Or.inl rfl) rfl (tkf_0 hT26 hf) ki_10 kcl_10 rfl rfl (by decide) (m_10 (d := d + 8) (step := (-18)) hT26 hI26 hf hG26 (by omega)) (kGV (fun T31 M31 hT31 hI31 fr31 hG31 v30p => ?_))
              have hFm31 := hFm26.call fr31 rfl
              have hFl1331 := hFl1326.call fr31 rfl
              have tr32 := (fr31 5 2 rfl)
              have tr33 := (fr31 5 3 rfl)
              have tr34 := rg_5_2 hI31
              have tr35 := rg_5_3 hI31
              refine r_iinc kx_96_56 rfl km_96_3 (by decide) ⟨by omega, by omega⟩ rfl ?_
              refine s_goto (t := 13) kx_96_59 (by decide) ?_
              exact cP.wk (lS1 rfl (lS1 rfl (lS1 rfl (lS1 rfl lS0)))) (ih14 (x3_6 + 1) T31 hT31 M31 hI31 hFm31 hFl1331 hG31 (by omega) (by omega) (by omega) (by omega))
            · replace v25p := v25p.resolve_left (by omega)
              refine s_iconst (v := 0) kx_96_48 (by decide) ?_
              exact s_iret kx_96_49 (Or.inr ⟨kq_96, by omega⟩) ⟨_, _, _, rfl, rfl, hT26, hI26, hFm26, hG26, (by omega)⟩
    exact cP.wk (lS1 rfl (lS1 rfl (lS1 rfl (lS1 rfl lS0)))) (key8 _ 0 T2 hT2 M2 hI2 hFm2 Fr.refl hG2 (by omega) (by omega) (by omega) (Nat.lt_succ_self _))
  · replace v1p := v1p.resolve_left (by omega)
    refine s_iconst (v := 0) kx_96_9 (by decide) ?_
    exact s_iret kx_96_10 (Or.inr ⟨kq_96, by omega⟩) ⟨_, _, _, rfl, rfl, hT2, hI2, hFm2, hG2, (by omega)⟩
theorem lvl {xs : Nat → Int} {Ln D : Nat} {o : Int} (h0 : 0 ≤ o) (hL : o < 7 → Lv xs Ln D (o + 1)) : Lv xs Ln (D + 11) o :=
  ⟨fun a b c e f g i => (m_89 (d := D) a b c e f hL h0 g i).deep (by omega), fun a b c e f g i => (m_96 (d := D) a b c e f hL h0 g i).deep (by omega), fun a b c e f g i => (m_98 (d := D) a b c e f hL h0 g i).deep (by omega)⟩
theorem lv_1 {xs : Nat → Int} {Ln : Nat} : Lv xs Ln 77 1 := by
  have h7 : Lv xs Ln (0 + 11) 7 := lvl (by decide) (fun h => absurd h (by decide))
  have h6 : Lv xs Ln (11 + 11) 6 := lvl (by decide) (fun _ => h7)
  have h5 : Lv xs Ln (22 + 11) 5 := lvl (by decide) (fun _ => h6)
  have h4 : Lv xs Ln (33 + 11) 4 := lvl (by decide) (fun _ => h5)
  have h3 : Lv xs Ln (44 + 11) 3 := lvl (by decide) (fun _ => h4)
  have h2 : Lv xs Ln (55 + 11) 2 := lvl (by decide) (fun _ => h3)
  exact lvl (by decide) (fun _ => h2)
