theorem kx_173_0 : x_code k_P 173 0 = some (.bipush 24, 2) := by decide +kernel
theorem kx_173_2 : x_code k_P 173 2 = some (.istore_n 2, 1) := by decide +kernel
theorem km_173_2 : 2 < x_maxL k_P 173 := by decide +kernel
theorem kx_173_3 : x_code k_P 173 3 = some (.iload_n 2, 1) := by decide +kernel
theorem kx_173_4 : x_code k_P 173 4 = some (.ifCond .lt 35, 3) := by decide +kernel
theorem kx_173_39 : x_code k_P 173 39 = some (.return_, 1) := by decide +kernel
theorem kq_173 : x_retk k_P 173 = 0 := by decide +kernel
theorem kx_173_7 : x_code k_P 173 7 = some (.aload_n 0, 1) := by decide +kernel
theorem kx_173_8 : x_code k_P 173 8 = some (.getfield 7, 3) := by decide +kernel
theorem kp_173_7 : x_pool k_P 173 7 = (1, 12, 0) := by decide +kernel
theorem kf_12_0 : (x_cls k_P 12)[0]? = some 12 := by decide +kernel
theorem kx_173_11 : x_code k_P 173 11 = some (.aload_n 0, 1) := by decide +kernel
theorem kx_173_12 : x_code k_P 173 12 = some (.getfield 13, 3) := by decide +kernel
theorem kp_173_13 : x_pool k_P 173 13 = (1, 12, 1) := by decide +kernel
theorem kf_12_1 : (x_cls k_P 12)[1]? = some 0 := by decide +kernel
theorem kx_173_15 : x_code k_P 173 15 = some (.iload_n 1, 1) := by decide +kernel
theorem kx_173_16 : x_code k_P 173 16 = some (.iload_n 2, 1) := by decide +kernel
theorem kx_173_17 : x_code k_P 173 17 = some (.ishr, 1) := by decide +kernel
theorem kx_173_18 : x_code k_P 173 18 = some (.sipush 255, 3) := by decide +kernel
theorem kx_173_21 : x_code k_P 173 21 = some (.iand, 1) := by decide +kernel
theorem kx_173_22 : x_code k_P 173 22 = some (.iastore, 1) := by decide +kernel
theorem kx_173_23 : x_code k_P 173 23 = some (.aload_n 0, 1) := by decide +kernel
theorem kx_173_24 : x_code k_P 173 24 = some (.dup, 1) := by decide +kernel
theorem kx_173_25 : x_code k_P 173 25 = some (.getfield 13, 3) := by decide +kernel
theorem kx_173_28 : x_code k_P 173 28 = some (.iconst 1, 1) := by decide +kernel
theorem kx_173_29 : x_code k_P 173 29 = some (.iadd, 1) := by decide +kernel
theorem kx_173_30 : x_code k_P 173 30 = some (.putfield 13, 3) := by decide +kernel
theorem kx_173_33 : x_code k_P 173 33 = some (.iinc 2 (-8), 3) := by decide +kernel
theorem kx_173_36 : x_code k_P 173 36 = some (.goto (-33), 3) := by decide +kernel
def fS_173_l3 : List (Nat × Nat) := [(63, 1), (64, 99999)]
def fS_173_m : List (Nat × Nat) := [(63, 1), (64, 99999)]
theorem m_173 {xs : Nat → Int} {Ln d : Nat} {T : List cK} {M : cM} (hT : TT T) (hI : Rng M) {x : Int} (p0 : M 63 1 + 4 ≤ 1600) : cC k_P xs Ln (d + 0) 173 [rf 63, (0, x)] (T, M) (qV T M fS_173_m (fun M1 => M1 63 1 = M 63 1 + 4)) := by
  show cP k_P xs Ln (d + 0) 173 0 [(0, rf 63), (1, (0, x))] [] (T, M) _
  have hFm : Fr fS_173_m M M := Fr.refl
  refine s_bipush (v := 24) kx_173_0 (by decide) ?_
  refine s_istore_n kx_173_2 km_173_2 rfl ?_
  have key3 : ∀ n4 : Nat, ∀ (x2_1 : Int), ∀ M2 : cM, Rng M2 → Fr fS_173_m M M2 → Fr fS_173_l3 M M2 → ((-8) ≤ x2_1) → (x2_1 ≤ 24) → (8 * (M2 63 1 - M 63 1) = 24 - x2_1) → (x2_1 + 2147483648).toNat < n4 → cP k_P xs Ln (d + 0) 173 3 [(0, rf 63), (1, (0, x)), (2, (0, x2_1))] [] (T, M2) (qV T M fS_173_m (fun M1 => M1 63 1 = M 63 1 + 4)) := by
    intro n4
    induction n4 with
    | zero => intro x2_1 M2 hI2 hFm2 fl2 i5 i6 i7 hm8; exact absurd hm8 (Nat.not_lt_zero _)
    | succ n4 ih9 =>
      intro x2_1 M2 hI2 hFm2 fl2 i5 i6 i7 hm8
      refine s_iload_n kx_173_3 rfl ?_
      refine s_if_lt (t := 39) kx_173_4 (by decide) (fun hc10 => ?_) (fun hc10 => ?_)
      · exact s_vret kx_173_39 kq_173 ⟨_, rfl, rfl, hI2, hFm2, (by omega)⟩
      · refine s_aload_n kx_173_7 rfl ?_
        refine r_getR (k := 63) (f := 0) (k2 := 64) kx_173_8 kp_173_7 (tk_63 hT) kf_12_0 (by decide) (rq_63_0 hI2) ?_
        refine s_aload_n kx_173_11 rfl ?_
        refine r_getI (k := 63) (f := 1) kx_173_12 kp_173_13 (tk_63 hT) kf_12_1 (fun _ => rfl) (rg_63_1 hI2) (fun v11 v11e v11a v11b => ?_)
        refine s_iload_n kx_173_15 rfl ?_
        refine s_iload_n kx_173_16 rfl ?_
        refine r_ishrR kx_173_17 (fun v12 v12a v12b => ?_)
        refine s_sipush (v := 255) kx_173_18 (by decide) ?_
        refine r_iandM kx_173_21 (by decide) (by decide) (fun v13 v13a v13b => ?_)
        refine r_ast (k := 64) kx_173_22 (tk_64 hT) ⟨by omega, by omega⟩ hI2 (ru_64 (by omega) (by omega)) (fun M14 hI14 u14 => ?_)
        have hFm14 := hFm2.up u14 rfl
        have hFl314 := fl2.up u14 rfl
        refine s_aload_n kx_173_23 rfl ?_
        refine s_dup kx_173_24 rfl ?_
        refine r_getK (k := 63) (f := 1) kx_173_25 kp_173_13 (tk_63 hT) kf_12_1 (fun _ => rfl) ((u14.2 63 1 (by omega)).trans v11e) ?_
        refine s_iconst (v := 1) kx_173_28 (by decide) ?_
        refine r_add kx_173_29 ⟨by omega, by omega⟩ ?_
        refine r_put (k := 63) (f := 1) kx_173_30 kp_173_13 (tk_63 hT) kf_12_1 rfl (by decide) (by decide) hI14 (ru_63_1 (by omega) (by omega)) (fun M15 hI15 u15 => ?_)
        have hFm15 := hFm14.up u15 rfl
        have hFl315 := hFl314.up u15 rfl
        refine r_iinc kx_173_33 rfl km_173_2 (by decide) ⟨by omega, by omega⟩ rfl ?_
        refine s_goto (t := 3) kx_173_36 (by decide) ?_
        have hk16 : M15 63 1 = (v11 + 1) := u15.1
        exact cP.wk (lS1 rfl (lS1 rfl (lS1 rfl lS0))) (ih9 (x2_1 + (-8)) M15 hI15 hFm15 hFl315 (by omega) (by omega) (by omega) (by omega))
  exact cP.wk (lS1 rfl (lS1 rfl (lS1 rfl lS0))) (key3 _ 24 M hI hFm Fr.refl (by omega) (by omega) (by omega) (Nat.lt_succ_self _))
theorem kx_174_0 : x_code k_P 174 0 = some (.aload_n 0, 1) := by decide +kernel
theorem kx_174_1 : x_code k_P 174 1 = some (.getfield 13, 3) := by decide +kernel
theorem kp_174_13 : x_pool k_P 174 13 = (1, 12, 1) := by decide +kernel
theorem kx_174_4 : x_code k_P 174 4 = some (.bipush 20, 2) := by decide +kernel
theorem kx_174_6 : x_code k_P 174 6 = some (.iadd, 1) := by decide +kernel
theorem kx_174_7 : x_code k_P 174 7 = some (.sipush 1600, 3) := by decide +kernel
theorem kx_174_10 : x_code k_P 174 10 = some (.if_icmp .le 9, 3) := by decide +kernel
theorem kx_174_19 : x_code k_P 174 19 = some (.aload_n 0, 1) := by decide +kernel
theorem kx_174_20 : x_code k_P 174 20 = some (.iload_n 1, 1) := by decide +kernel
theorem kx_174_21 : x_code k_P 174 21 = some (.invokevirtual 259, 3) := by decide +kernel
theorem kp_174_259 : x_pool k_P 174 259 = (2, 173, 1) := by decide +kernel
theorem ki_173 : x_mci k_P 173 = 12 := by decide +kernel
theorem kcl_173 : x_maxL k_P 173 ≤ 60 ∧ 2 ≤ x_maxL k_P 173 := by decide +kernel
theorem kx_174_24 : x_code k_P 174 24 = some (.aload_n 0, 1) := by decide +kernel
theorem kx_174_25 : x_code k_P 174 25 = some (.iload_n 2, 1) := by decide +kernel
theorem kx_174_26 : x_code k_P 174 26 = some (.invokevirtual 259, 3) := by decide +kernel
theorem kx_174_29 : x_code k_P 174 29 = some (.aload_n 0, 1) := by decide +kernel
theorem kx_174_30 : x_code k_P 174 30 = some (.iload_n 3, 1) := by decide +kernel
theorem kx_174_31 : x_code k_P 174 31 = some (.invokevirtual 259, 3) := by decide +kernel
theorem kx_174_34 : x_code k_P 174 34 = some (.aload_n 0, 1) := by decide +kernel
theorem kx_174_35 : x_code k_P 174 35 = some (.iload 4, 2) := by decide +kernel
theorem kx_174_37 : x_code k_P 174 37 = some (.invokevirtual 259, 3) := by decide +kernel
theorem kx_174_40 : x_code k_P 174 40 = some (.aload_n 0, 1) := by decide +kernel
theorem kx_174_41 : x_code k_P 174 41 = some (.iload 5, 2) := by decide +kernel
theorem kx_174_43 : x_code k_P 174 43 = some (.invokevirtual 259, 3) := by decide +kernel
theorem kx_174_46 : x_code k_P 174 46 = some (.aload_n 0, 1) := by decide +kernel
theorem kx_174_47 : x_code k_P 174 47 = some (.getfield 13, 3) := by decide +kernel
theorem kx_174_50 : x_code k_P 174 50 = some (.ireturn, 1) := by decide +kernel
theorem kq_174 : x_retk k_P 174 = 1 := by decide +kernel
theorem kx_174_13 : x_code k_P 174 13 = some (.aload_n 0, 1) := by decide +kernel
theorem kx_174_14 : x_code k_P 174 14 = some (.iconst 0, 1) := by decide +kernel
theorem kx_174_15 : x_code k_P 174 15 = some (.invokevirtual 255, 3) := by decide +kernel
theorem kp_174_255 : x_pool k_P 174 255 = (2, 218, 1) := by decide +kernel
theorem kx_174_18 : x_code k_P 174 18 = some (.ireturn, 1) := by decide +kernel
def fS_174_m : List (Nat × Nat) := [(63, 1), (64, 99999), (91, 99999)]
theorem m_174 {xs : Nat → Int} {Ln d : Nat} {T : List cK} {M : cM} (hT : TT T) (hI : Rng M) {a b c e f : Int} : cC k_P xs Ln (d + 1) 174 [rf 63, (0, a), (0, b), (0, c), (0, e), (0, f)] (T, M) (qW T M fS_174_m 0 (fun v M1 => (1600 < M 63 1 + 20 ∧ v = -1 ∧ M1 63 1 = M 63 1) ∨ (M 63 1 + 20 ≤ 1600 ∧ v = M 63 1 + 20 ∧ M1 63 1 = v))) := by
  show cP k_P xs Ln (d + 1) 174 0 [(0, rf 63), (1, (0, a)), (2, (0, b)), (3, (0, c)), (4, (0, e)), (5, (0, f))] [] (T, M) _
  have hFm : Fr fS_174_m M M := Fr.refl
  refine s_aload_n kx_174_0 rfl ?_
  refine r_getI (k := 63) (f := 1) kx_174_1 kp_174_13 (tk_63 hT) kf_12_1 (fun _ => rfl) (rg_63_1 hI) (fun v1 v1e v1a v1b => ?_)
  refine s_bipush (v := 20) kx_174_4 (by decide) ?_
  refine r_add kx_174_6 ⟨by omega, by omega⟩ ?_
  refine s_sipush (v := 1600) kx_174_7 (by decide) ?_
  refine s_icmp_le (t := 19) kx_174_10 (by decide) (fun hc2 => ?_) (fun hc2 => ?_)
  · refine s_aload_n kx_174_19 rfl ?_
    refine s_iload_n kx_174_20 rfl ?_
    refine s_callV2 (k := 63) (s1 := 2) (s2 := 0) (as := [(0, a)]) (rest := []) kx_174_21 kp_174_259 (Or.inl rfl) rfl (tk_63 hT) ki_173 kcl_173 rfl rfl (by decide) (m_173 (d := d) (x := a) hT hI (by omega)) (kV (fun M4 hI4 fr4 v3p => ?_))
    have hFm4 := hFm.call fr4 rfl
    refine s_aload_n kx_174_24 rfl ?_
    refine s_iload_n kx_174_25 rfl ?_
    refine s_callV2 (k := 63) (s1 := 2) (s2 := 0) (as := [(0, b)]) (rest := []) kx_174_26 kp_174_259 (Or.inl rfl) rfl (tk_63 hT) ki_173 kcl_173 rfl rfl (by decide) (m_173 (d := d) (x := b) hT hI4 (by omega)) (kV (fun M6 hI6 fr6 v5p => ?_))
    have hFm6 := hFm4.call fr6 rfl
    refine s_aload_n kx_174_29 rfl ?_
    refine s_iload_n kx_174_30 rfl ?_
    refine s_callV2 (k := 63) (s1 := 2) (s2 := 0) (as := [(0, c)]) (rest := []) kx_174_31 kp_174_259 (Or.inl rfl) rfl (tk_63 hT) ki_173 kcl_173 rfl rfl (by decide) (m_173 (d := d) (x := c) hT hI6 (by omega)) (kV (fun M8 hI8 fr8 v7p => ?_))
    have hFm8 := hFm6.call fr8 rfl
    refine s_aload_n kx_174_34 rfl ?_
    refine s_iload kx_174_35 rfl ?_
    refine s_callV2 (k := 63) (s1 := 2) (s2 := 0) (as := [(0, e)]) (rest := []) kx_174_37 kp_174_259 (Or.inl rfl) rfl (tk_63 hT) ki_173 kcl_173 rfl rfl (by decide) (m_173 (d := d) (x := e) hT hI8 (by omega)) (kV (fun M10 hI10 fr10 v9p => ?_))
    have hFm10 := hFm8.call fr10 rfl
    refine s_aload_n kx_174_40 rfl ?_
    refine s_iload kx_174_41 rfl ?_
    refine s_callV2 (k := 63) (s1 := 2) (s2 := 0) (as := [(0, f)]) (rest := []) kx_174_43 kp_174_259 (Or.inl rfl) rfl (tk_63 hT) ki_173 kcl_173 rfl rfl (by decide) (m_173 (d := d) (x := f) hT hI10 (by omega)) (kV (fun M12 hI12 fr12 v11p => ?_))
    have hFm12 := hFm10.call fr12 rfl
    refine s_aload_n kx_174_46 rfl ?_
    refine r_getI (k := 63) (f := 1) kx_174_47 kp_174_13 (tk_63 hT) kf_12_1 (fun _ => rfl) (rg_63_1 hI12) (fun v13 v13e v13a v13b => ?_)
    have hk14 : M12 63 1 = v13 := v13e
    exact s_iret kx_174_50 (Or.inl kq_174) ⟨_, _, rfl, rfl, hI12, hFm12, (by omega)⟩
  · refine s_aload_n kx_174_13 rfl ?_
    refine s_iconst (v := 0) kx_174_14 (by decide) ?_
    refine s_callV2 (k := 63) (s1 := 2) (s2 := 0) (as := [(0, 0)]) (rest := []) kx_174_15 kp_174_255 (Or.inl rfl) rfl (tk_63 hT) ki_218 kcl_218 rfl rfl (by decide) (m_218 (d := d) (kind := 0) hT hI (by omega)) (kW (fun v15 M16 hI16 fr16 v15p => ?_))
    have hFm16 := hFm.call fr16 rfl
    have hk17 : M16 63 1 = v1 := ((fr16 63 1 rfl).trans v1e)
    exact s_iret kx_174_18 (Or.inl kq_174) ⟨_, _, rfl, rfl, hI16, hFm16, (by omega)⟩
theorem kx_175_0 : x_code k_P 175 0 = some (.iload_n 1, 1) := by decide +kernel
theorem kx_175_1 : x_code k_P 175 1 = some (.ifCond .lt 11, 3) := by decide +kernel
theorem kx_175_12 : x_code k_P 175 12 = some (.aload_n 0, 1) := by decide +kernel
theorem kx_175_13 : x_code k_P 175 13 = some (.iconst 0, 1) := by decide +kernel
theorem kx_175_14 : x_code k_P 175 14 = some (.invokevirtual 255, 3) := by decide +kernel
theorem kp_175_255 : x_pool k_P 175 255 = (2, 218, 1) := by decide +kernel
theorem kx_175_17 : x_code k_P 175 17 = some (.ifCond .lt 7, 3) := by decide +kernel
theorem kx_175_24 : x_code k_P 175 24 = some (.iconst 0, 1) := by decide +kernel
theorem kx_175_25 : x_code k_P 175 25 = some (.ireturn, 1) := by decide +kernel
theorem kq_175 : x_retk k_P 175 = 2 := by decide +kernel
theorem kx_175_4 : x_code k_P 175 4 = some (.iload_n 1, 1) := by decide +kernel
theorem kx_175_5 : x_code k_P 175 5 = some (.aload_n 0, 1) := by decide +kernel
theorem kx_175_6 : x_code k_P 175 6 = some (.getfield 13, 3) := by decide +kernel
theorem kp_175_13 : x_pool k_P 175 13 = (1, 12, 1) := by decide +kernel
theorem kx_175_9 : x_code k_P 175 9 = some (.if_icmp .le 17, 3) := by decide +kernel
theorem kx_175_26 : x_code k_P 175 26 = some (.aload_n 0, 1) := by decide +kernel
theorem kx_175_27 : x_code k_P 175 27 = some (.iload_n 1, 1) := by decide +kernel
theorem kx_175_28 : x_code k_P 175 28 = some (.putfield 13, 3) := by decide +kernel
theorem kx_175_31 : x_code k_P 175 31 = some (.iconst 1, 1) := by decide +kernel
theorem kx_175_32 : x_code k_P 175 32 = some (.ireturn, 1) := by decide +kernel
def fS_175_m : List (Nat × Nat) := [(63, 1), (91, 99999)]
theorem m_175 {xs : Nat → Int} {Ln d : Nat} {T : List cK} {M : cM} (hT : TT T) (hI : Rng M) {n : Int} : cC k_P xs Ln (d + 1) 175 [rf 63, (0, n)] (T, M) (qW T M fS_175_m 0 (fun v M1 => (v = 1 ∧ M1 63 1 = n ∧ 0 ≤ n ∧ n ≤ M 63 1) ∨ (v = 0 ∧ M1 63 1 = M 63 1 ∧ (n < 0 ∨ M 63 1 < n)))) := by
  show cP k_P xs Ln (d + 1) 175 0 [(0, rf 63), (1, (0, n))] [] (T, M) _
  have hFm : Fr fS_175_m M M := Fr.refl
  refine s_iload_n kx_175_0 rfl ?_
  refine s_if_lt (t := 12) kx_175_1 (by decide) (fun hc1 => ?_) (fun hc1 => ?_)
  · refine s_aload_n kx_175_12 rfl ?_
    refine s_iconst (v := 0) kx_175_13 (by decide) ?_
    refine s_callV2 (k := 63) (s1 := 2) (s2 := 0) (as := [(0, 0)]) (rest := []) kx_175_14 kp_175_255 (Or.inl rfl) rfl (tk_63 hT) ki_218 kcl_218 rfl rfl (by decide) (m_218 (d := d) (kind := 0) hT hI (by omega)) (kW (fun v2 M3 hI3 fr3 v2p => ?_))
    have hFm3 := hFm.call fr3 rfl
    refine s_if_lt (t := 24) kx_175_17 (by decide) (fun hc4 => ?_) (fun hc4 => absurd hc4 (by omega))
    refine s_iconst (v := 0) kx_175_24 (by decide) ?_
    have hz9 : M3 63 1 = M 63 1 := (fr3 63 1 rfl)
    exact s_iret kx_175_25 (Or.inr ⟨kq_175, by omega⟩) ⟨_, _, rfl, rfl, hI3, hFm3, (by omega)⟩
  · refine s_iload_n kx_175_4 rfl ?_
    refine s_aload_n kx_175_5 rfl ?_
    refine r_getI (k := 63) (f := 1) kx_175_6 kp_175_13 (tk_63 hT) kf_12_1 (fun _ => rfl) (rg_63_1 hI) (fun v5 v5e v5a v5b => ?_)
    refine s_icmp_le (t := 26) kx_175_9 (by decide) (fun hc6 => ?_) (fun hc6 => ?_)
    · refine s_aload_n kx_175_26 rfl ?_
      refine s_iload_n kx_175_27 rfl ?_
      refine r_put (k := 63) (f := 1) kx_175_28 kp_175_13 (tk_63 hT) kf_12_1 rfl (by decide) (by decide) hI (ru_63_1 (by omega) (by omega)) (fun M7 hI7 u7 => ?_)
      have hFm7 := hFm.up u7 rfl
      refine s_iconst (v := 1) kx_175_31 (by decide) ?_
      have hk8 : M7 63 1 = n := u7.1
      exact s_iret kx_175_32 (Or.inr ⟨kq_175, by omega⟩) ⟨_, _, rfl, rfl, hI7, hFm7, (by omega)⟩
    · refine s_aload_n kx_175_12 rfl ?_
      refine s_iconst (v := 0) kx_175_13 (by decide) ?_
      refine s_callV2 (k := 63) (s1 := 2) (s2 := 0) (as := [(0, 0)]) (rest := []) kx_175_14 kp_175_255 (Or.inl rfl) rfl (tk_63 hT) ki_218 kcl_218 rfl rfl (by decide) (m_218 (d := d) (kind := 0) hT hI (by omega)) (kW (fun v9 M10 hI10 fr10 v9p => ?_))
      have hFm10 := hFm.call fr10 rfl
      refine s_if_lt (t := 24) kx_175_17 (by decide) (fun hc11 => ?_) (fun hc11 => absurd hc11 (by omega))
      refine s_iconst (v := 0) kx_175_24 (by decide) ?_
      have hk12 : M10 63 1 = v5 := ((fr10 63 1 rfl).trans v5e)
      exact s_iret kx_175_25 (Or.inr ⟨kq_175, by omega⟩) ⟨_, _, rfl, rfl, hI10, hFm10, (by omega)⟩
theorem kx_290_0 : x_code k_P 290 0 = some (.aload_n 0, 1) := by decide +kernel
theorem kx_290_1 : x_code k_P 290 1 = some (.getfield 7, 3) := by decide +kernel
theorem kp_290_7 : x_pool k_P 290 7 = (1, 12, 0) := by decide +kernel
theorem kx_290_4 : x_code k_P 290 4 = some (.iload_n 1, 1) := by decide +kernel
theorem kx_290_5 : x_code k_P 290 5 = some (.iaload, 1) := by decide +kernel
theorem kx_290_6 : x_code k_P 290 6 = some (.bipush 16, 2) := by decide +kernel
theorem kx_290_8 : x_code k_P 290 8 = some (.ishl, 1) := by decide +kernel
theorem kx_290_9 : x_code k_P 290 9 = some (.aload_n 0, 1) := by decide +kernel
theorem kx_290_10 : x_code k_P 290 10 = some (.getfield 7, 3) := by decide +kernel
theorem kx_290_13 : x_code k_P 290 13 = some (.iload_n 1, 1) := by decide +kernel
theorem kx_290_14 : x_code k_P 290 14 = some (.iconst 1, 1) := by decide +kernel
theorem kx_290_15 : x_code k_P 290 15 = some (.iadd, 1) := by decide +kernel
theorem kx_290_16 : x_code k_P 290 16 = some (.iaload, 1) := by decide +kernel
theorem kx_290_17 : x_code k_P 290 17 = some (.bipush 8, 2) := by decide +kernel
theorem kx_290_19 : x_code k_P 290 19 = some (.ishl, 1) := by decide +kernel
theorem kx_290_20 : x_code k_P 290 20 = some (.ior, 1) := by decide +kernel
theorem kx_290_21 : x_code k_P 290 21 = some (.aload_n 0, 1) := by decide +kernel
theorem kx_290_22 : x_code k_P 290 22 = some (.getfield 7, 3) := by decide +kernel
theorem kx_290_25 : x_code k_P 290 25 = some (.iload_n 1, 1) := by decide +kernel
theorem kx_290_26 : x_code k_P 290 26 = some (.iconst 2, 1) := by decide +kernel
theorem kx_290_27 : x_code k_P 290 27 = some (.iadd, 1) := by decide +kernel
theorem kx_290_28 : x_code k_P 290 28 = some (.iaload, 1) := by decide +kernel
theorem kx_290_29 : x_code k_P 290 29 = some (.ior, 1) := by decide +kernel
theorem kx_290_30 : x_code k_P 290 30 = some (.ireturn, 1) := by decide +kernel
theorem kq_290 : x_retk k_P 290 = 1 := by decide +kernel
theorem m_290 {xs : Nat → Int} {Ln d : Nat} {T : List cK} {M : cM} (hT : TT T) (hI : Rng M) {at_ : Int} (p0 : 0 ≤ at_ ∧ at_ ≤ 1797) : cC k_P xs Ln (d + 0) 290 [rf 63, (0, at_)] (T, M) (qF T M 0 (fun v => True)) := by
  show cP k_P xs Ln (d + 0) 290 0 [(0, rf 63), (1, (0, at_))] [] (T, M) _
  refine s_aload_n kx_290_0 rfl ?_
  refine r_getR (k := 63) (f := 0) (k2 := 64) kx_290_1 kp_290_7 (tk_63 hT) kf_12_0 (by decide) (rq_63_0 hI) ?_
  refine s_iload_n kx_290_4 rfl ?_
  refine r_ald (k := 64) kx_290_5 (tk_64 hT) ⟨by omega, by omega⟩ (rg_64 hI) (fun v1 v1e v1a v1b => ?_)
  refine s_bipush (v := 16) kx_290_6 (by decide) ?_
  refine r_ishlR kx_290_8 (fun v2 v2a v2b => ?_)
  refine s_aload_n kx_290_9 rfl ?_
  refine r_getR (k := 63) (f := 0) (k2 := 64) kx_290_10 kp_290_7 (tk_63 hT) kf_12_0 (by decide) (rq_63_0 hI) ?_
  refine s_iload_n kx_290_13 rfl ?_
  refine s_iconst (v := 1) kx_290_14 (by decide) ?_
  refine r_add kx_290_15 ⟨by omega, by omega⟩ ?_
  refine r_ald (k := 64) kx_290_16 (tk_64 hT) ⟨by omega, by omega⟩ (rg_64 hI) (fun v3 v3e v3a v3b => ?_)
  refine s_bipush (v := 8) kx_290_17 (by decide) ?_
  refine r_ishlR kx_290_19 (fun v4 v4a v4b => ?_)
  refine r_iorR kx_290_20 (fun v5 v5a v5b => ?_)
  refine s_aload_n kx_290_21 rfl ?_
  refine r_getR (k := 63) (f := 0) (k2 := 64) kx_290_22 kp_290_7 (tk_63 hT) kf_12_0 (by decide) (rq_63_0 hI) ?_
  refine s_iload_n kx_290_25 rfl ?_
  refine s_iconst (v := 2) kx_290_26 (by decide) ?_
  refine r_add kx_290_27 ⟨by omega, by omega⟩ ?_
  refine r_ald (k := 64) kx_290_28 (tk_64 hT) ⟨by omega, by omega⟩ (rg_64 hI) (fun v6 v6e v6a v6b => ?_)
  refine r_iorR kx_290_29 (fun v7 v7a v7b => ?_)
  exact s_iret kx_290_30 (Or.inl kq_290) ⟨_, rfl, rfl, trivial⟩
theorem kx_291_0 : x_code k_P 291 0 = some (.bipush 8, 2) := by decide +kernel
theorem kx_291_2 : x_code k_P 291 2 = some (.iload_n 1, 1) := by decide +kernel
theorem kx_291_3 : x_code k_P 291 3 = some (.iadd, 1) := by decide +kernel
theorem kx_291_4 : x_code k_P 291 4 = some (.istore_n 3, 1) := by decide +kernel
theorem km_291_3 : 3 < x_maxL k_P 291 := by decide +kernel
theorem kx_291_5 : x_code k_P 291 5 = some (.aload_n 0, 1) := by decide +kernel
theorem kx_291_6 : x_code k_P 291 6 = some (.getfield 159, 3) := by decide +kernel
theorem kp_291_159 : x_pool k_P 291 159 = (1, 12, 48) := by decide +kernel
theorem kx_291_9 : x_code k_P 291 9 = some (.iload_n 3, 1) := by decide +kernel
theorem kx_291_10 : x_code k_P 291 10 = some (.aload_n 0, 1) := by decide +kernel
theorem kx_291_11 : x_code k_P 291 11 = some (.getfield 7, 3) := by decide +kernel
theorem kp_291_7 : x_pool k_P 291 7 = (1, 12, 0) := by decide +kernel
theorem kx_291_14 : x_code k_P 291 14 = some (.iload_n 2, 1) := by decide +kernel
theorem kx_291_15 : x_code k_P 291 15 = some (.iaload, 1) := by decide +kernel
theorem kx_291_16 : x_code k_P 291 16 = some (.iastore, 1) := by decide +kernel
theorem kx_291_17 : x_code k_P 291 17 = some (.aload_n 0, 1) := by decide +kernel
theorem kx_291_18 : x_code k_P 291 18 = some (.getfield 162, 3) := by decide +kernel
theorem kp_291_162 : x_pool k_P 291 162 = (1, 12, 49) := by decide +kernel
theorem kx_291_21 : x_code k_P 291 21 = some (.iload_n 3, 1) := by decide +kernel
theorem kx_291_22 : x_code k_P 291 22 = some (.aload_n 0, 1) := by decide +kernel
theorem kx_291_23 : x_code k_P 291 23 = some (.getfield 7, 3) := by decide +kernel
theorem kx_291_26 : x_code k_P 291 26 = some (.iload_n 2, 1) := by decide +kernel
theorem kx_291_27 : x_code k_P 291 27 = some (.iconst 1, 1) := by decide +kernel
theorem kx_291_28 : x_code k_P 291 28 = some (.iadd, 1) := by decide +kernel
theorem kx_291_29 : x_code k_P 291 29 = some (.iaload, 1) := by decide +kernel
theorem kx_291_30 : x_code k_P 291 30 = some (.iastore, 1) := by decide +kernel
theorem kx_291_31 : x_code k_P 291 31 = some (.aload_n 0, 1) := by decide +kernel
theorem kx_291_32 : x_code k_P 291 32 = some (.getfield 165, 3) := by decide +kernel
theorem kp_291_165 : x_pool k_P 291 165 = (1, 12, 50) := by decide +kernel
theorem kx_291_35 : x_code k_P 291 35 = some (.iload_n 3, 1) := by decide +kernel
theorem kx_291_36 : x_code k_P 291 36 = some (.aload_n 0, 1) := by decide +kernel
theorem kx_291_37 : x_code k_P 291 37 = some (.getfield 7, 3) := by decide +kernel
theorem kx_291_40 : x_code k_P 291 40 = some (.iload_n 2, 1) := by decide +kernel
theorem kx_291_41 : x_code k_P 291 41 = some (.iconst 2, 1) := by decide +kernel
theorem kx_291_42 : x_code k_P 291 42 = some (.iadd, 1) := by decide +kernel
theorem kx_291_43 : x_code k_P 291 43 = some (.iaload, 1) := by decide +kernel
theorem kx_291_44 : x_code k_P 291 44 = some (.iastore, 1) := by decide +kernel
theorem kx_291_45 : x_code k_P 291 45 = some (.aload_n 0, 1) := by decide +kernel
theorem kx_291_46 : x_code k_P 291 46 = some (.getfield 168, 3) := by decide +kernel
theorem kp_291_168 : x_pool k_P 291 168 = (1, 12, 51) := by decide +kernel
theorem kx_291_49 : x_code k_P 291 49 = some (.iload_n 3, 1) := by decide +kernel
theorem kx_291_50 : x_code k_P 291 50 = some (.aload_n 0, 1) := by decide +kernel
theorem kx_291_51 : x_code k_P 291 51 = some (.iload_n 2, 1) := by decide +kernel
theorem kx_291_52 : x_code k_P 291 52 = some (.iconst 3, 1) := by decide +kernel
theorem kx_291_53 : x_code k_P 291 53 = some (.iadd, 1) := by decide +kernel
theorem kx_291_54 : x_code k_P 291 54 = some (.invokevirtual 615, 3) := by decide +kernel
theorem kp_291_615 : x_pool k_P 291 615 = (2, 290, 1) := by decide +kernel
theorem ki_290 : x_mci k_P 290 = 12 := by decide +kernel
theorem kcl_290 : x_maxL k_P 290 ≤ 60 ∧ 2 ≤ x_maxL k_P 290 := by decide +kernel
theorem kx_291_57 : x_code k_P 291 57 = some (.iastore, 1) := by decide +kernel
theorem kx_291_58 : x_code k_P 291 58 = some (.aload_n 0, 1) := by decide +kernel
theorem kx_291_59 : x_code k_P 291 59 = some (.getfield 171, 3) := by decide +kernel
theorem kp_291_171 : x_pool k_P 291 171 = (1, 12, 52) := by decide +kernel
theorem kx_291_62 : x_code k_P 291 62 = some (.iload_n 3, 1) := by decide +kernel
theorem kx_291_63 : x_code k_P 291 63 = some (.aload_n 0, 1) := by decide +kernel
theorem kx_291_64 : x_code k_P 291 64 = some (.iload_n 2, 1) := by decide +kernel
theorem kx_291_65 : x_code k_P 291 65 = some (.bipush 6, 2) := by decide +kernel
theorem kx_291_67 : x_code k_P 291 67 = some (.iadd, 1) := by decide +kernel
theorem kx_291_68 : x_code k_P 291 68 = some (.invokevirtual 615, 3) := by decide +kernel
theorem kx_291_71 : x_code k_P 291 71 = some (.iastore, 1) := by decide +kernel
theorem kx_291_72 : x_code k_P 291 72 = some (.aload_n 0, 1) := by decide +kernel
theorem kx_291_73 : x_code k_P 291 73 = some (.aload_n 0, 1) := by decide +kernel
theorem kx_291_74 : x_code k_P 291 74 = some (.getfield 7, 3) := by decide +kernel
theorem kx_291_77 : x_code k_P 291 77 = some (.iload_n 2, 1) := by decide +kernel
theorem kx_291_78 : x_code k_P 291 78 = some (.iaload, 1) := by decide +kernel
theorem kx_291_79 : x_code k_P 291 79 = some (.invokevirtual 508, 3) := by decide +kernel
theorem kp_291_508 : x_pool k_P 291 508 = (2, 220, 1) := by decide +kernel
theorem kx_291_82 : x_code k_P 291 82 = some (.ifCond .eq 58, 3) := by decide +kernel
theorem kx_291_140 : x_code k_P 291 140 = some (.iconst 0, 1) := by decide +kernel
theorem kx_291_141 : x_code k_P 291 141 = some (.ireturn, 1) := by decide +kernel
theorem kq_291 : x_retk k_P 291 = 2 := by decide +kernel
theorem kx_291_85 : x_code k_P 291 85 = some (.aload_n 0, 1) := by decide +kernel
theorem kx_291_86 : x_code k_P 291 86 = some (.aload_n 0, 1) := by decide +kernel
theorem kx_291_87 : x_code k_P 291 87 = some (.getfield 7, 3) := by decide +kernel
theorem kx_291_90 : x_code k_P 291 90 = some (.iload_n 2, 1) := by decide +kernel
theorem kx_291_91 : x_code k_P 291 91 = some (.iconst 1, 1) := by decide +kernel
theorem kx_291_92 : x_code k_P 291 92 = some (.iadd, 1) := by decide +kernel
theorem kx_291_93 : x_code k_P 291 93 = some (.iaload, 1) := by decide +kernel
theorem kx_291_94 : x_code k_P 291 94 = some (.invokevirtual 508, 3) := by decide +kernel
theorem kx_291_97 : x_code k_P 291 97 = some (.ifCond .eq 43, 3) := by decide +kernel
theorem kx_291_100 : x_code k_P 291 100 = some (.aload_n 0, 1) := by decide +kernel
theorem kx_291_101 : x_code k_P 291 101 = some (.getfield 7, 3) := by decide +kernel
theorem kx_291_104 : x_code k_P 291 104 = some (.iload_n 2, 1) := by decide +kernel
theorem kx_291_105 : x_code k_P 291 105 = some (.iconst 2, 1) := by decide +kernel
theorem kx_291_106 : x_code k_P 291 106 = some (.iadd, 1) := by decide +kernel
theorem kx_291_107 : x_code k_P 291 107 = some (.iaload, 1) := by decide +kernel
theorem kx_291_108 : x_code k_P 291 108 = some (.iconst 2, 1) := by decide +kernel
theorem kx_291_109 : x_code k_P 291 109 = some (.if_icmp .ge 31, 3) := by decide +kernel
theorem kx_291_112 : x_code k_P 291 112 = some (.aload_n 0, 1) := by decide +kernel
theorem kx_291_113 : x_code k_P 291 113 = some (.getfield 168, 3) := by decide +kernel
theorem kx_291_116 : x_code k_P 291 116 = some (.iload_n 3, 1) := by decide +kernel
theorem kx_291_117 : x_code k_P 291 117 = some (.iaload, 1) := by decide +kernel
theorem kx_291_118 : x_code k_P 291 118 = some (.ldc_w 541, 3) := by decide +kernel
theorem kp_291_541 : x_pool k_P 291 541 = (7, 0, 99999) := by decide +kernel
theorem kx_291_121 : x_code k_P 291 121 = some (.if_icmp .gt 19, 3) := by decide +kernel
theorem kx_291_124 : x_code k_P 291 124 = some (.aload_n 0, 1) := by decide +kernel
theorem kx_291_125 : x_code k_P 291 125 = some (.getfield 171, 3) := by decide +kernel
theorem kx_291_128 : x_code k_P 291 128 = some (.iload_n 3, 1) := by decide +kernel
theorem kx_291_129 : x_code k_P 291 129 = some (.iaload, 1) := by decide +kernel
theorem kx_291_130 : x_code k_P 291 130 = some (.ldc_w 541, 3) := by decide +kernel
theorem kx_291_133 : x_code k_P 291 133 = some (.if_icmp .gt 7, 3) := by decide +kernel
theorem kx_291_136 : x_code k_P 291 136 = some (.iconst 1, 1) := by decide +kernel
theorem kx_291_137 : x_code k_P 291 137 = some (.goto 4, 3) := by decide +kernel
def fS_291_m : List (Nat × Nat) := [(92, 99999), (93, 99999), (94, 99999), (95, 99999), (96, 99999)]
theorem m_291 {xs : Nat → Int} {Ln d : Nat} {T : List cK} {M : cM} (hT : TT T) (hI : Rng M) {p at_ : Int} (p0 : 0 ≤ p ∧ p ≤ 7) (p1 : 0 ≤ at_ ∧ at_ ≤ 63) : cC k_P xs Ln (d + 1) 291 [rf 63, (0, p), (0, at_)] (T, M) (qW T M fS_291_m 0 (fun v M1 => (v = 1 ∧ (zR M 92 1 8 → zR M1 92 1 8) ∧ (zR M 93 1 8 → zR M1 93 1 8)) ∨ v = 0)) := by
  show cP k_P xs Ln (d + 1) 291 0 [(0, rf 63), (1, (0, p)), (2, (0, at_))] [] (T, M) _
  have hFm : Fr fS_291_m M M := Fr.refl
  refine s_bipush (v := 8) kx_291_0 (by decide) ?_
  refine s_iload_n kx_291_2 rfl ?_
  refine r_add kx_291_3 ⟨by omega, by omega⟩ ?_
  refine s_istore_n kx_291_4 km_291_3 rfl ?_
  refine s_aload_n kx_291_5 rfl ?_
  refine r_getR (k := 63) (f := 48) (k2 := 92) kx_291_6 kp_291_159 (tk_63 hT) kf_12_48 (by decide) (rq_63_48 hI) ?_
  refine s_iload_n kx_291_9 rfl ?_
  refine s_aload_n kx_291_10 rfl ?_
  refine r_getR (k := 63) (f := 0) (k2 := 64) kx_291_11 kp_291_7 (tk_63 hT) kf_12_0 (by decide) (rq_63_0 hI) ?_
  refine s_iload_n kx_291_14 rfl ?_
  refine r_ald (k := 64) kx_291_15 (tk_64 hT) ⟨by omega, by omega⟩ (rg_64 hI) (fun v1 v1e v1a v1b => ?_)
  refine r_ast (k := 92) kx_291_16 (tk_92 hT) ⟨by omega, by omega⟩ hI (ru_92 (fun _ => by omega)) (fun M2 hI2 u2 => ?_)
  have hFm2 := hFm.up u2 rfl
  refine s_aload_n kx_291_17 rfl ?_
  refine r_getR (k := 63) (f := 49) (k2 := 93) kx_291_18 kp_291_162 (tk_63 hT) kf_12_49 (by decide) (rq_63_49 hI2) ?_
  refine s_iload_n kx_291_21 rfl ?_
  refine s_aload_n kx_291_22 rfl ?_
  refine r_getR (k := 63) (f := 0) (k2 := 64) kx_291_23 kp_291_7 (tk_63 hT) kf_12_0 (by decide) (rq_63_0 hI2) ?_
  refine s_iload_n kx_291_26 rfl ?_
  refine s_iconst (v := 1) kx_291_27 (by decide) ?_
  refine r_add kx_291_28 ⟨by omega, by omega⟩ ?_
  refine r_ald (k := 64) kx_291_29 (tk_64 hT) ⟨by omega, by omega⟩ (rg_64 hI2) (fun v3 v3e v3a v3b => ?_)
  refine r_ast (k := 93) kx_291_30 (tk_93 hT) ⟨by omega, by omega⟩ hI2 (ru_93 (fun _ => by omega)) (fun M4 hI4 u4 => ?_)
  have hFm4 := hFm2.up u4 rfl
  refine s_aload_n kx_291_31 rfl ?_
  refine r_getR (k := 63) (f := 50) (k2 := 94) kx_291_32 kp_291_165 (tk_63 hT) kf_12_50 (by decide) (rq_63_50 hI4) ?_
  refine s_iload_n kx_291_35 rfl ?_
  refine s_aload_n kx_291_36 rfl ?_
  refine r_getR (k := 63) (f := 0) (k2 := 64) kx_291_37 kp_291_7 (tk_63 hT) kf_12_0 (by decide) (rq_63_0 hI4) ?_
  refine s_iload_n kx_291_40 rfl ?_
  refine s_iconst (v := 2) kx_291_41 (by decide) ?_
  refine r_add kx_291_42 ⟨by omega, by omega⟩ ?_
  refine r_ald (k := 64) kx_291_43 (tk_64 hT) ⟨by omega, by omega⟩ (rg_64 hI4) (fun v5 v5e v5a v5b => ?_)
  refine r_ast (k := 94) kx_291_44 (tk_94 hT) ⟨by omega, by omega⟩ hI4 ru_94 (fun M6 hI6 u6 => ?_)
  have hFm6 := hFm4.up u6 rfl
  refine s_aload_n kx_291_45 rfl ?_
  refine r_getR (k := 63) (f := 51) (k2 := 95) kx_291_46 kp_291_168 (tk_63 hT) kf_12_51 (by decide) (rq_63_51 hI6) ?_
  refine s_iload_n kx_291_49 rfl ?_
  refine s_aload_n kx_291_50 rfl ?_
  refine s_iload_n kx_291_51 rfl ?_
  refine s_iconst (v := 3) kx_291_52 (by decide) ?_
  refine r_add kx_291_53 ⟨by omega, by omega⟩ ?_
  refine s_callV2 (k := 63) (s1 := 2) (s2 := 2) (as := [(0, (at_ + 3))]) (rest := [(0, (8 + p)), rf 95]) kx_291_54 kp_291_615 (Or.inl rfl) rfl (tk_63 hT) ki_290 kcl_290 rfl rfl (by decide) (m_290 (d := d) (at_ := (at_ + 3)) hT hI6 (by omega)) (kF (fun v7 v7p => ?_))
  refine r_ast (k := 95) kx_291_57 (tk_95 hT) ⟨by omega, by omega⟩ hI6 ru_95 (fun M8 hI8 u8 => ?_)
  have hFm8 := hFm6.up u8 rfl
  refine s_aload_n kx_291_58 rfl ?_
  refine r_getR (k := 63) (f := 52) (k2 := 96) kx_291_59 kp_291_171 (tk_63 hT) kf_12_52 (by decide) (rq_63_52 hI8) ?_
  refine s_iload_n kx_291_62 rfl ?_
  refine s_aload_n kx_291_63 rfl ?_
  refine s_iload_n kx_291_64 rfl ?_
  refine s_bipush (v := 6) kx_291_65 (by decide) ?_
  refine r_add kx_291_67 ⟨by omega, by omega⟩ ?_
  refine s_callV2 (k := 63) (s1 := 2) (s2 := 2) (as := [(0, (at_ + 6))]) (rest := [(0, (8 + p)), rf 96]) kx_291_68 kp_291_615 (Or.inl rfl) rfl (tk_63 hT) ki_290 kcl_290 rfl rfl (by decide) (m_290 (d := d) (at_ := (at_ + 6)) hT hI8 (by omega)) (kF (fun v9 v9p => ?_))
  refine r_ast (k := 96) kx_291_71 (tk_96 hT) ⟨by omega, by omega⟩ hI8 ru_96 (fun M10 hI10 u10 => ?_)
  have hFm10 := hFm8.up u10 rfl
  refine s_aload_n kx_291_72 rfl ?_
  refine s_aload_n kx_291_73 rfl ?_
  refine r_getR (k := 63) (f := 0) (k2 := 64) kx_291_74 kp_291_7 (tk_63 hT) kf_12_0 (by decide) (rq_63_0 hI10) ?_
  refine s_iload_n kx_291_77 rfl ?_
  refine r_aldK (k := 64) kx_291_78 (tk_64 hT) ⟨by omega, by omega⟩ ((u10.2 64 _ (by omega)).trans ((u8.2 64 _ (by omega)).trans ((u6.2 64 _ (by omega)).trans ((u4.2 64 _ (by omega)).trans ((u2.2 64 _ (by omega)).trans v1e))))) ?_
  refine s_callV2 (k := 63) (s1 := 2) (s2 := 0) (as := [(0, v1)]) (rest := []) kx_291_79 kp_291_508 (Or.inl rfl) rfl (tk_63 hT) ki_220 kcl_220 rfl rfl (by decide) (m_220 (d := d) (r := v1) hT hI10) (kF (fun v11 v11p => ?_))
  refine s_if_eq (t := 140) kx_291_82 (by decide) (fun hc12 => ?_) (fun hc12 => ?_)
  · replace v11p := v11p.resolve_left (by omega)
    refine s_iconst (v := 0) kx_291_140 (by decide) ?_
    exact s_iret kx_291_141 (Or.inr ⟨kq_291, by omega⟩) ⟨_, _, rfl, rfl, hI10, hFm10, (Or.inr rfl)⟩
  · replace v11p := v11p.resolve_right (by omega)
    refine s_aload_n kx_291_85 rfl ?_
    refine s_aload_n kx_291_86 rfl ?_
    refine r_getR (k := 63) (f := 0) (k2 := 64) kx_291_87 kp_291_7 (tk_63 hT) kf_12_0 (by decide) (rq_63_0 hI10) ?_
    refine s_iload_n kx_291_90 rfl ?_
    refine s_iconst (v := 1) kx_291_91 (by decide) ?_
    refine r_add kx_291_92 ⟨by omega, by omega⟩ ?_
    refine r_aldK (k := 64) kx_291_93 (tk_64 hT) ⟨by omega, by omega⟩ ((u10.2 64 _ (by omega)).trans ((u8.2 64 _ (by omega)).trans ((u6.2 64 _ (by omega)).trans ((u4.2 64 _ (by omega)).trans v3e)))) ?_
    refine s_callV2 (k := 63) (s1 := 2) (s2 := 0) (as := [(0, v3)]) (rest := []) kx_291_94 kp_291_508 (Or.inl rfl) rfl (tk_63 hT) ki_220 kcl_220 rfl rfl (by decide) (m_220 (d := d) (r := v3) hT hI10) (kF (fun v13 v13p => ?_))
    refine s_if_eq (t := 140) kx_291_97 (by decide) (fun hc14 => ?_) (fun hc14 => ?_)
    · replace v13p := v13p.resolve_left (by omega)
      refine s_iconst (v := 0) kx_291_140 (by decide) ?_
      exact s_iret kx_291_141 (Or.inr ⟨kq_291, by omega⟩) ⟨_, _, rfl, rfl, hI10, hFm10, (Or.inr rfl)⟩
    · replace v13p := v13p.resolve_right (by omega)
      refine s_aload_n kx_291_100 rfl ?_
      refine r_getR (k := 63) (f := 0) (k2 := 64) kx_291_101 kp_291_7 (tk_63 hT) kf_12_0 (by decide) (rq_63_0 hI10) ?_
      refine s_iload_n kx_291_104 rfl ?_
      refine s_iconst (v := 2) kx_291_105 (by decide) ?_
      refine r_add kx_291_106 ⟨by omega, by omega⟩ ?_
      refine r_aldK (k := 64) kx_291_107 (tk_64 hT) ⟨by omega, by omega⟩ ((u10.2 64 _ (by omega)).trans ((u8.2 64 _ (by omega)).trans ((u6.2 64 _ (by omega)).trans v5e))) ?_
      refine s_iconst (v := 2) kx_291_108 (by decide) ?_
      refine s_icmp_ge (t := 140) kx_291_109 (by decide) (fun hc15 => ?_) (fun hc15 => ?_)
      · refine s_iconst (v := 0) kx_291_140 (by decide) ?_
        exact s_iret kx_291_141 (Or.inr ⟨kq_291, by omega⟩) ⟨_, _, rfl, rfl, hI10, hFm10, (Or.inr rfl)⟩
      · refine s_aload_n kx_291_112 rfl ?_
        refine r_getR (k := 63) (f := 51) (k2 := 95) kx_291_113 kp_291_168 (tk_63 hT) kf_12_51 (by decide) (rq_63_51 hI10) ?_
        refine s_iload_n kx_291_116 rfl ?_
        refine r_aldK (k := 95) kx_291_117 (tk_95 hT) ⟨by omega, by omega⟩ ((u10.2 95 _ (by omega)).trans u8.1) ?_
        refine s_ldc_w kx_291_118 kp_291_541 ?_
        refine s_icmp_gt (t := 140) kx_291_121 (by decide) (fun hc16 => ?_) (fun hc16 => ?_)
        · refine s_iconst (v := 0) kx_291_140 (by decide) ?_
          exact s_iret kx_291_141 (Or.inr ⟨kq_291, by omega⟩) ⟨_, _, rfl, rfl, hI10, hFm10, (Or.inr rfl)⟩
        · refine s_aload_n kx_291_124 rfl ?_
          refine r_getR (k := 63) (f := 52) (k2 := 96) kx_291_125 kp_291_171 (tk_63 hT) kf_12_52 (by decide) (rq_63_52 hI10) ?_
          refine s_iload_n kx_291_128 rfl ?_
          refine r_aldK (k := 96) kx_291_129 (tk_96 hT) ⟨by omega, by omega⟩ u10.1 ?_
          refine s_ldc_w kx_291_130 kp_291_541 ?_
          refine s_icmp_gt (t := 140) kx_291_133 (by decide) (fun hc17 => ?_) (fun hc17 => ?_)
          · refine s_iconst (v := 0) kx_291_140 (by decide) ?_
            exact s_iret kx_291_141 (Or.inr ⟨kq_291, by omega⟩) ⟨_, _, rfl, rfl, hI10, hFm10, (Or.inr rfl)⟩
          · refine s_iconst (v := 1) kx_291_136 (by decide) ?_
            refine s_goto (t := 141) kx_291_137 (by decide) ?_
            exact s_iret kx_291_141 (Or.inr ⟨kq_291, by omega⟩) ⟨_, _, rfl, rfl, hI10, hFm10, (Or.inl ⟨rfl, fun hz => (zR.up (zR.up (zR.up (zR.up (zR.up hz u2 (fun _ => by omega)) u4 (fun e => absurd e (by decide))) u6 (fun e => absurd e (by decide))) u8 (fun e => absurd e (by decide))) u10 (fun e => absurd e (by decide))), fun hz => (zR.up (zR.up (zR.up (zR.up (zR.up hz u2 (fun e => absurd e (by decide))) u4 (fun _ => by omega)) u6 (fun e => absurd e (by decide))) u8 (fun e => absurd e (by decide))) u10 (fun e => absurd e (by decide)))⟩)⟩
theorem kx_292_0 : x_code k_P 292 0 = some (.iload_n 1, 1) := by decide +kernel
theorem kx_292_1 : x_code k_P 292 1 = some (.iconst 1, 1) := by decide +kernel
theorem kx_292_2 : x_code k_P 292 2 = some (.bipush 9, 2) := by decide +kernel
theorem kx_292_4 : x_code k_P 292 4 = some (.aload_n 0, 1) := by decide +kernel
theorem kx_292_5 : x_code k_P 292 5 = some (.getfield 69, 3) := by decide +kernel
theorem kp_292_69 : x_pool k_P 292 69 = (1, 12, 19) := by decide +kernel
theorem kx_292_8 : x_code k_P 292 8 = some (.aload_n 0, 1) := by decide +kernel
theorem kx_292_9 : x_code k_P 292 9 = some (.getfield 54, 3) := by decide +kernel
theorem kp_292_54 : x_pool k_P 292 54 = (1, 12, 14) := by decide +kernel
theorem kx_292_12 : x_code k_P 292 12 = some (.iaload, 1) := by decide +kernel
theorem kx_292_13 : x_code k_P 292 13 = some (.imul, 1) := by decide +kernel
theorem kx_292_14 : x_code k_P 292 14 = some (.iadd, 1) := by decide +kernel
theorem kx_292_15 : x_code k_P 292 15 = some (.if_icmp .eq 5, 3) := by decide +kernel
theorem kx_292_20 : x_code k_P 292 20 = some (.bipush 113, 2) := by decide +kernel
theorem kx_292_22 : x_code k_P 292 22 = some (.istore_n 2, 1) := by decide +kernel
theorem km_292_2 : 2 < x_maxL k_P 292 := by decide +kernel
theorem kx_292_23 : x_code k_P 292 23 = some (.iconst 0, 1) := by decide +kernel
theorem kx_292_24 : x_code k_P 292 24 = some (.istore_n 3, 1) := by decide +kernel
theorem km_292_3 : 3 < x_maxL k_P 292 := by decide +kernel
theorem kx_292_25 : x_code k_P 292 25 = some (.iload_n 3, 1) := by decide +kernel
theorem kx_292_26 : x_code k_P 292 26 = some (.iload_n 1, 1) := by decide +kernel
theorem kx_292_27 : x_code k_P 292 27 = some (.iconst 1, 1) := by decide +kernel
theorem kx_292_28 : x_code k_P 292 28 = some (.isub, 1) := by decide +kernel
theorem kx_292_29 : x_code k_P 292 29 = some (.if_icmp .ge 24, 3) := by decide +kernel
theorem kx_292_53 : x_code k_P 292 53 = some (.aload_n 0, 1) := by decide +kernel
theorem kx_292_54 : x_code k_P 292 54 = some (.getfield 7, 3) := by decide +kernel
theorem kp_292_7 : x_pool k_P 292 7 = (1, 12, 0) := by decide +kernel
theorem kx_292_57 : x_code k_P 292 57 = some (.iload_n 1, 1) := by decide +kernel
theorem kx_292_58 : x_code k_P 292 58 = some (.iconst 1, 1) := by decide +kernel
theorem kx_292_59 : x_code k_P 292 59 = some (.isub, 1) := by decide +kernel
theorem kx_292_60 : x_code k_P 292 60 = some (.iaload, 1) := by decide +kernel
theorem kx_292_61 : x_code k_P 292 61 = some (.iload_n 2, 1) := by decide +kernel
theorem kx_292_62 : x_code k_P 292 62 = some (.if_icmp .eq 5, 3) := by decide +kernel
theorem kx_292_67 : x_code k_P 292 67 = some (.aload_n 0, 1) := by decide +kernel
theorem kx_292_68 : x_code k_P 292 68 = some (.iconst 1, 1) := by decide +kernel
theorem kx_292_69 : x_code k_P 292 69 = some (.iconst 0, 1) := by decide +kernel
theorem kx_292_70 : x_code k_P 292 70 = some (.invokevirtual 452, 3) := by decide +kernel
theorem kp_292_452 : x_pool k_P 292 452 = (2, 224, 2) := by decide +kernel
theorem kx_292_73 : x_code k_P 292 73 = some (.aload_n 0, 1) := by decide +kernel
theorem kx_292_74 : x_code k_P 292 74 = some (.getfield 174, 3) := by decide +kernel
theorem kp_292_174 : x_pool k_P 292 174 = (1, 12, 53) := by decide +kernel
theorem kx_292_77 : x_code k_P 292 77 = some (.iconst 1, 1) := by decide +kernel
theorem kx_292_78 : x_code k_P 292 78 = some (.iconst 0, 1) := by decide +kernel
theorem kx_292_79 : x_code k_P 292 79 = some (.iastore, 1) := by decide +kernel
theorem kx_292_80 : x_code k_P 292 80 = some (.iconst 0, 1) := by decide +kernel
theorem kx_292_81 : x_code k_P 292 81 = some (.istore_n 3, 1) := by decide +kernel
theorem kx_292_82 : x_code k_P 292 82 = some (.iload_n 3, 1) := by decide +kernel
theorem kx_292_83 : x_code k_P 292 83 = some (.aload_n 0, 1) := by decide +kernel
theorem kx_292_84 : x_code k_P 292 84 = some (.getfield 69, 3) := by decide +kernel
theorem kx_292_87 : x_code k_P 292 87 = some (.aload_n 0, 1) := by decide +kernel
theorem kx_292_88 : x_code k_P 292 88 = some (.getfield 54, 3) := by decide +kernel
theorem kx_292_91 : x_code k_P 292 91 = some (.iaload, 1) := by decide +kernel
theorem kx_292_92 : x_code k_P 292 92 = some (.if_icmp .ge 23, 3) := by decide +kernel
theorem kx_292_115 : x_code k_P 292 115 = some (.iconst 0, 1) := by decide +kernel
theorem kx_292_116 : x_code k_P 292 116 = some (.istore_n 3, 1) := by decide +kernel
theorem kx_292_117 : x_code k_P 292 117 = some (.iload_n 3, 1) := by decide +kernel
theorem kx_292_118 : x_code k_P 292 118 = some (.aload_n 0, 1) := by decide +kernel
theorem kx_292_119 : x_code k_P 292 119 = some (.getfield 57, 3) := by decide +kernel
theorem kp_292_57 : x_pool k_P 292 57 = (1, 12, 15) := by decide +kernel
theorem kx_292_122 : x_code k_P 292 122 = some (.aload_n 0, 1) := by decide +kernel
theorem kx_292_123 : x_code k_P 292 123 = some (.getfield 54, 3) := by decide +kernel
theorem kx_292_126 : x_code k_P 292 126 = some (.iaload, 1) := by decide +kernel
theorem kx_292_127 : x_code k_P 292 127 = some (.if_icmp .ge 85, 3) := by decide +kernel
theorem kx_292_212 : x_code k_P 292 212 = some (.iconst 1, 1) := by decide +kernel
theorem kx_292_213 : x_code k_P 292 213 = some (.ireturn, 1) := by decide +kernel
theorem kq_292 : x_retk k_P 292 = 2 := by decide +kernel
theorem kx_292_130 : x_code k_P 292 130 = some (.iconst 0, 1) := by decide +kernel
theorem kx_292_131 : x_code k_P 292 131 = some (.istore 4, 2) := by decide +kernel
theorem km_292_4 : 4 < x_maxL k_P 292 := by decide +kernel
theorem kx_292_133 : x_code k_P 292 133 = some (.iconst 0, 1) := by decide +kernel
theorem kx_292_134 : x_code k_P 292 134 = some (.istore 5, 2) := by decide +kernel
theorem km_292_5 : 5 < x_maxL k_P 292 := by decide +kernel
theorem kx_292_136 : x_code k_P 292 136 = some (.iload 5, 2) := by decide +kernel
theorem kx_292_138 : x_code k_P 292 138 = some (.aload_n 0, 1) := by decide +kernel
theorem kx_292_139 : x_code k_P 292 139 = some (.getfield 69, 3) := by decide +kernel
theorem kx_292_142 : x_code k_P 292 142 = some (.aload_n 0, 1) := by decide +kernel
theorem kx_292_143 : x_code k_P 292 143 = some (.getfield 54, 3) := by decide +kernel
theorem kx_292_146 : x_code k_P 292 146 = some (.iaload, 1) := by decide +kernel
theorem kx_292_147 : x_code k_P 292 147 = some (.if_icmp .ge 38, 3) := by decide +kernel
theorem kx_292_185 : x_code k_P 292 185 = some (.iload 4, 2) := by decide +kernel
theorem kx_292_187 : x_code k_P 292 187 = some (.aload_n 0, 1) := by decide +kernel
theorem kx_292_188 : x_code k_P 292 188 = some (.getfield 63, 3) := by decide +kernel
theorem kp_292_63 : x_pool k_P 292 63 = (1, 12, 17) := by decide +kernel
theorem kx_292_191 : x_code k_P 292 191 = some (.bipush 8, 2) := by decide +kernel
theorem kx_292_193 : x_code k_P 292 193 = some (.aload_n 0, 1) := by decide +kernel
theorem kx_292_194 : x_code k_P 292 194 = some (.getfield 54, 3) := by decide +kernel
theorem kx_292_197 : x_code k_P 292 197 = some (.imul, 1) := by decide +kernel
theorem kx_292_198 : x_code k_P 292 198 = some (.iload_n 3, 1) := by decide +kernel
theorem kx_292_199 : x_code k_P 292 199 = some (.iadd, 1) := by decide +kernel
theorem kx_292_200 : x_code k_P 292 200 = some (.iaload, 1) := by decide +kernel
theorem kx_292_201 : x_code k_P 292 201 = some (.if_icmp .le 5, 3) := by decide +kernel
theorem kx_292_206 : x_code k_P 292 206 = some (.iinc 3 1, 3) := by decide +kernel
theorem kx_292_209 : x_code k_P 292 209 = some (.goto (-92), 3) := by decide +kernel
theorem kx_292_204 : x_code k_P 292 204 = some (.iconst 0, 1) := by decide +kernel
theorem kx_292_205 : x_code k_P 292 205 = some (.ireturn, 1) := by decide +kernel
theorem kx_292_150 : x_code k_P 292 150 = some (.iload 4, 2) := by decide +kernel
theorem kx_292_152 : x_code k_P 292 152 = some (.aload_n 0, 1) := by decide +kernel
theorem kx_292_153 : x_code k_P 292 153 = some (.getfield 162, 3) := by decide +kernel
theorem kp_292_162 : x_pool k_P 292 162 = (1, 12, 49) := by decide +kernel
theorem kx_292_156 : x_code k_P 292 156 = some (.bipush 8, 2) := by decide +kernel
theorem kx_292_158 : x_code k_P 292 158 = some (.iload 5, 2) := by decide +kernel
theorem kx_292_160 : x_code k_P 292 160 = some (.iadd, 1) := by decide +kernel
theorem kx_292_161 : x_code k_P 292 161 = some (.iaload, 1) := by decide +kernel
theorem kx_292_162 : x_code k_P 292 162 = some (.iload_n 3, 1) := by decide +kernel
theorem kx_292_163 : x_code k_P 292 163 = some (.if_icmp .ne 12, 3) := by decide +kernel
theorem kx_292_175 : x_code k_P 292 175 = some (.iconst 0, 1) := by decide +kernel
theorem kx_292_176 : x_code k_P 292 176 = some (.iadd, 1) := by decide +kernel
theorem kx_292_177 : x_code k_P 292 177 = some (.istore 4, 2) := by decide +kernel
theorem kx_292_179 : x_code k_P 292 179 = some (.iinc 5 1, 3) := by decide +kernel
theorem kx_292_182 : x_code k_P 292 182 = some (.goto (-46), 3) := by decide +kernel
theorem kx_292_166 : x_code k_P 292 166 = some (.aload_n 0, 1) := by decide +kernel
theorem kx_292_167 : x_code k_P 292 167 = some (.iload 5, 2) := by decide +kernel
theorem kx_292_169 : x_code k_P 292 169 = some (.invokevirtual 484, 3) := by decide +kernel
theorem kp_292_484 : x_pool k_P 292 484 = (2, 237, 1) := by decide +kernel
theorem kx_292_172 : x_code k_P 292 172 = some (.goto 4, 3) := by decide +kernel
theorem kx_292_95 : x_code k_P 292 95 = some (.aload_n 0, 1) := by decide +kernel
theorem kx_292_96 : x_code k_P 292 96 = some (.iload_n 3, 1) := by decide +kernel
theorem kx_292_97 : x_code k_P 292 97 = some (.bipush 9, 2) := by decide +kernel
theorem kx_292_99 : x_code k_P 292 99 = some (.iload_n 3, 1) := by decide +kernel
theorem kx_292_100 : x_code k_P 292 100 = some (.imul, 1) := by decide +kernel
theorem kx_292_101 : x_code k_P 292 101 = some (.invokevirtual 618, 3) := by decide +kernel
theorem kp_292_618 : x_pool k_P 292 618 = (2, 291, 2) := by decide +kernel
theorem ki_291 : x_mci k_P 291 = 12 := by decide +kernel
theorem kcl_291 : x_maxL k_P 291 ≤ 60 ∧ 3 ≤ x_maxL k_P 291 := by decide +kernel
theorem kx_292_104 : x_code k_P 292 104 = some (.ifCond .ne 5, 3) := by decide +kernel
theorem kx_292_109 : x_code k_P 292 109 = some (.iinc 3 1, 3) := by decide +kernel
theorem kx_292_112 : x_code k_P 292 112 = some (.goto (-30), 3) := by decide +kernel
theorem kx_292_107 : x_code k_P 292 107 = some (.iconst 0, 1) := by decide +kernel
theorem kx_292_108 : x_code k_P 292 108 = some (.ireturn, 1) := by decide +kernel
theorem kx_292_65 : x_code k_P 292 65 = some (.iconst 0, 1) := by decide +kernel
theorem kx_292_66 : x_code k_P 292 66 = some (.ireturn, 1) := by decide +kernel
theorem kx_292_32 : x_code k_P 292 32 = some (.iconst 5, 1) := by decide +kernel
theorem kx_292_33 : x_code k_P 292 33 = some (.iload_n 2, 1) := by decide +kernel
theorem kx_292_34 : x_code k_P 292 34 = some (.imul, 1) := by decide +kernel
theorem kx_292_35 : x_code k_P 292 35 = some (.aload_n 0, 1) := by decide +kernel
theorem kx_292_36 : x_code k_P 292 36 = some (.getfield 7, 3) := by decide +kernel
theorem kx_292_39 : x_code k_P 292 39 = some (.iload_n 3, 1) := by decide +kernel
theorem kx_292_40 : x_code k_P 292 40 = some (.iaload, 1) := by decide +kernel
theorem kx_292_41 : x_code k_P 292 41 = some (.iadd, 1) := by decide +kernel
theorem kx_292_42 : x_code k_P 292 42 = some (.sipush 251, 3) := by decide +kernel
theorem kx_292_45 : x_code k_P 292 45 = some (.irem, 1) := by decide +kernel
theorem kx_292_46 : x_code k_P 292 46 = some (.istore_n 2, 1) := by decide +kernel
theorem kx_292_47 : x_code k_P 292 47 = some (.iinc 3 1, 3) := by decide +kernel
theorem kx_292_50 : x_code k_P 292 50 = some (.goto (-25), 3) := by decide +kernel
theorem kx_292_18 : x_code k_P 292 18 = some (.iconst 0, 1) := by decide +kernel
theorem kx_292_19 : x_code k_P 292 19 = some (.ireturn, 1) := by decide +kernel
def fS_292_l82 : List (Nat × Nat) := [(92, 99999), (93, 99999), (94, 99999), (95, 99999), (96, 99999)]
def fS_292_m : List (Nat × Nat) := [(100, 99999), (101, 99999), (92, 99999), (93, 99999), (94, 99999), (95, 99999), (96, 99999), (97, 99999), (98, 99999), (99, 99999)]
def fS_292_l25 : List (Nat × Nat) := []
def fS_292_l117 : List (Nat × Nat) := []
def fS_292_l136 : List (Nat × Nat) := []
theorem m_292 {xs : Nat → Int} {Ln d : Nat} {T : List cK} {M : cM} (hT : TT T) (hI : Rng M) {n : Int} (p0 : 0 ≤ n ∧ n ≤ 1600) : cC k_P xs Ln (d + 2) 292 [rf 63, (0, n)] (T, M) (qW T M fS_292_m 0 (fun v M1 => (v = 1 ∧ zR M1 92 1 8 ∧ zR M1 93 1 8) ∨ v = 0)) := by
  show cP k_P xs Ln (d + 2) 292 0 [(0, rf 63), (1, (0, n))] [] (T, M) _
  have hFm : Fr fS_292_m M M := Fr.refl
  refine s_iload_n kx_292_0 rfl ?_
  refine s_iconst (v := 1) kx_292_1 (by decide) ?_
  refine s_bipush (v := 9) kx_292_2 (by decide) ?_
  refine s_aload_n kx_292_4 rfl ?_
  refine r_getR (k := 63) (f := 19) (k2 := 69) kx_292_5 kp_292_69 (tk_63 hT) kf_12_19 (by decide) (rq_63_19 hI) ?_
  refine s_aload_n kx_292_8 rfl ?_
  refine r_getI (k := 63) (f := 14) kx_292_9 kp_292_54 (tk_63 hT) kf_12_14 (fun _ => rfl) (rg_63_14 hI) (fun v1 v1e v1a v1b => ?_)
  refine r_ald (k := 69) kx_292_12 (tk_69 hT) ⟨by omega, by omega⟩ (rg_69 hI) (fun v2 v2e v2a v2b => ?_)
  refine r_mul kx_292_13 ⟨by omega, by omega⟩ ?_
  refine r_add kx_292_14 ⟨by omega, by omega⟩ ?_
  refine s_icmp_eq (t := 20) kx_292_15 (by decide) (fun hc3 => ?_) (fun hc3 => ?_)
  · refine s_bipush (v := 113) kx_292_20 (by decide) ?_
    refine s_istore_n kx_292_22 km_292_2 rfl ?_
    refine s_iconst (v := 0) kx_292_23 (by decide) ?_
    refine s_istore_n kx_292_24 km_292_3 rfl ?_
    have key6 : ∀ n7 : Nat, ∀ (x2_4 x3_5 : Int), (0 ≤ x3_5) → (2147483647 - x3_5).toNat < n7 → cP k_P xs Ln (d + 2) 292 25 [(0, rf 63), (1, (0, n)), (2, (0, x2_4)), (3, (0, x3_5))] [] (T, M) (qW T M fS_292_m 0 (fun v M1 => (v = 1 ∧ zR M1 92 1 8 ∧ zR M1 93 1 8) ∨ v = 0)) := by
      intro n7
      induction n7 with
      | zero => intro x2_4 x3_5 i8 hm9; exact absurd hm9 (Nat.not_lt_zero _)
      | succ n7 ih10 =>
        intro x2_4 x3_5 i8 hm9
        refine s_iload_n kx_292_25 rfl ?_
        refine s_iload_n kx_292_26 rfl ?_
        refine s_iconst (v := 1) kx_292_27 (by decide) ?_
        refine r_sub kx_292_28 ⟨by omega, by omega⟩ ?_
        refine s_icmp_ge (t := 53) kx_292_29 (by decide) (fun hc11 => ?_) (fun hc11 => ?_)
        · refine s_aload_n kx_292_53 rfl ?_
          refine r_getR (k := 63) (f := 0) (k2 := 64) kx_292_54 kp_292_7 (tk_63 hT) kf_12_0 (by decide) (rq_63_0 hI) ?_
          refine s_iload_n kx_292_57 rfl ?_
          refine s_iconst (v := 1) kx_292_58 (by decide) ?_
          refine r_sub kx_292_59 ⟨by omega, by omega⟩ ?_
          refine r_ald (k := 64) kx_292_60 (tk_64 hT) ⟨by omega, by omega⟩ (rg_64 hI) (fun v12 v12e v12a v12b => ?_)
          refine s_iload_n kx_292_61 rfl ?_
          refine s_icmp_eq (t := 67) kx_292_62 (by decide) (fun hc13 => ?_) (fun hc13 => ?_)
          · refine s_aload_n kx_292_67 rfl ?_
            refine s_iconst (v := 1) kx_292_68 (by decide) ?_
            refine s_iconst (v := 0) kx_292_69 (by decide) ?_
            refine s_callV2 (k := 63) (s1 := 3) (s2 := 0) (as := [(0, 0), (0, 1)]) (rest := []) kx_292_70 kp_292_452 (Or.inl rfl) rfl (tk_63 hT) ki_224 kcl_224 rfl rfl (by decide) (m_224 (d := d + 1) (to := 1) (from_ := 0) hT hI (by omega) (by omega) (zR_of92 hI (by omega)) (zR_of93 hI (by omega))) (kV (fun M15 hI15 fr15 v14p => ?_))
            have hFm15 := hFm.call fr15 rfl
            refine s_aload_n kx_292_73 rfl ?_
            refine r_getR (k := 63) (f := 53) (k2 := 97) kx_292_74 kp_292_174 (tk_63 hT) kf_12_53 (by decide) (rq_63_53 hI15) ?_
            refine s_iconst (v := 1) kx_292_77 (by decide) ?_
            refine s_iconst (v := 0) kx_292_78 (by decide) ?_
            refine r_ast (k := 97) kx_292_79 (tk_97 hT) ⟨by decide, by decide⟩ hI15 (ru_97 (by omega) (by omega)) (fun M16 hI16 u16 => ?_)
            have hFm16 := hFm15.up u16 rfl
            refine s_iconst (v := 0) kx_292_80 (by decide) ?_
            refine s_istore_n kx_292_81 km_292_3 rfl ?_
            have key19 : ∀ n20 : Nat, ∀ (x3_17 : Int), ∀ M18 : cM, Rng M18 → Fr fS_292_m M M18 → Fr fS_292_l82 M16 M18 → (0 ≤ x3_17) → (zR M18 92 1 8) → (zR M18 93 1 8) → (2147483647 - x3_17).toNat < n20 → cP k_P xs Ln (d + 2) 292 82 [(0, rf 63), (3, (0, x3_17))] [] (T, M18) (qW T M fS_292_m 0 (fun v M1 => (v = 1 ∧ zR M1 92 1 8 ∧ zR M1 93 1 8) ∨ v = 0)) := by
              intro n20
              induction n20 with
              | zero => intro x3_17 M18 hI18 hFm18 fl18 i21 i22 i23 hm24; exact absurd hm24 (Nat.not_lt_zero _)
              | succ n20 ih25 =>
                intro x3_17 M18 hI18 hFm18 fl18 i21 i22 i23 hm24
                refine s_iload_n kx_292_82 rfl ?_
                refine s_aload_n kx_292_83 rfl ?_
                refine r_getR (k := 63) (f := 19) (k2 := 69) kx_292_84 kp_292_69 (tk_63 hT) kf_12_19 (by decide) (rq_63_19 hI18) ?_
                refine s_aload_n kx_292_87 rfl ?_
                refine r_getK (k := 63) (f := 14) kx_292_88 kp_292_54 (tk_63 hT) kf_12_14 (fun _ => rfl) ((fl18 63 14 rfl).trans ((u16.2 63 14 (by omega)).trans ((fr15 63 14 rfl).trans v1e))) ?_
                refine r_aldK (k := 69) kx_292_91 (tk_69 hT) ⟨by omega, by omega⟩ ((fl18 69 _ rfl).trans ((u16.2 69 _ (by omega)).trans ((fr15 69 _ rfl).trans v2e))) ?_
                refine s_icmp_ge (t := 115) kx_292_92 (by decide) (fun hc26 => ?_) (fun hc26 => ?_)
                · refine s_iconst (v := 0) kx_292_115 (by decide) ?_
                  refine s_istore_n kx_292_116 km_292_3 rfl ?_
                  have key28 : ∀ n29 : Nat, ∀ (x3_27 : Int), (0 ≤ x3_27) → (2147483647 - x3_27).toNat < n29 → cP k_P xs Ln (d + 2) 292 117 [(0, rf 63), (3, (0, x3_27))] [] (T, M18) (qW T M fS_292_m 0 (fun v M1 => (v = 1 ∧ zR M1 92 1 8 ∧ zR M1 93 1 8) ∨ v = 0)) := by
                    intro n29
                    induction n29 with
                    | zero => intro x3_27 i30 hm31; exact absurd hm31 (Nat.not_lt_zero _)
                    | succ n29 ih32 =>
                      intro x3_27 i30 hm31
                      refine s_iload_n kx_292_117 rfl ?_
                      refine s_aload_n kx_292_118 rfl ?_
                      refine r_getR (k := 63) (f := 15) (k2 := 65) kx_292_119 kp_292_57 (tk_63 hT) kf_12_15 (by decide) (rq_63_15 hI18) ?_
                      refine s_aload_n kx_292_122 rfl ?_
                      refine r_getK (k := 63) (f := 14) kx_292_123 kp_292_54 (tk_63 hT) kf_12_14 (fun _ => rfl) ((fl18 63 14 rfl).trans ((u16.2 63 14 (by omega)).trans ((fr15 63 14 rfl).trans v1e))) ?_
                      refine r_ald (k := 65) kx_292_126 (tk_65 hT) ⟨by omega, by omega⟩ (rg_65 hI18) (fun v33 v33e v33a v33b => ?_)
                      refine s_icmp_ge (t := 212) kx_292_127 (by decide) (fun hc34 => ?_) (fun hc34 => ?_)
                      · refine s_iconst (v := 1) kx_292_212 (by decide) ?_
                        exact s_iret kx_292_213 (Or.inr ⟨kq_292, by omega⟩) ⟨_, _, rfl, rfl, hI18, hFm18, (Or.inl ⟨rfl, i22, i23⟩)⟩
                      · refine s_iconst (v := 0) kx_292_130 (by decide) ?_
                        refine s_istore kx_292_131 km_292_4 rfl ?_
                        refine s_iconst (v := 0) kx_292_133 (by decide) ?_
                        refine s_istore kx_292_134 km_292_5 rfl ?_
                        have key37 : ∀ n38 : Nat, ∀ (x4_35 x5_36 : Int), (0 ≤ x5_36) → (2147483647 - x5_36).toNat < n38 → cP k_P xs Ln (d + 2) 292 136 [(0, rf 63), (3, (0, x3_27)), (4, (0, x4_35)), (5, (0, x5_36))] [] (T, M18) (qW T M fS_292_m 0 (fun v M1 => (v = 1 ∧ zR M1 92 1 8 ∧ zR M1 93 1 8) ∨ v = 0)) := by
                          intro n38
                          induction n38 with
                          | zero => intro x4_35 x5_36 i39 hm40; exact absurd hm40 (Nat.not_lt_zero _)
                          | succ n38 ih41 =>
                            intro x4_35 x5_36 i39 hm40
                            refine s_iload kx_292_136 rfl ?_
                            refine s_aload_n kx_292_138 rfl ?_
                            refine r_getR (k := 63) (f := 19) (k2 := 69) kx_292_139 kp_292_69 (tk_63 hT) kf_12_19 (by decide) (rq_63_19 hI18) ?_
                            refine s_aload_n kx_292_142 rfl ?_
                            refine r_getK (k := 63) (f := 14) kx_292_143 kp_292_54 (tk_63 hT) kf_12_14 (fun _ => rfl) ((fl18 63 14 rfl).trans ((u16.2 63 14 (by omega)).trans ((fr15 63 14 rfl).trans v1e))) ?_
                            refine r_aldK (k := 69) kx_292_146 (tk_69 hT) ⟨by omega, by omega⟩ ((fl18 69 _ rfl).trans ((u16.2 69 _ (by omega)).trans ((fr15 69 _ rfl).trans v2e))) ?_
                            refine s_icmp_ge (t := 185) kx_292_147 (by decide) (fun hc42 => ?_) (fun hc42 => ?_)
                            · refine s_iload kx_292_185 rfl ?_
                              refine s_aload_n kx_292_187 rfl ?_
                              refine r_getR (k := 63) (f := 17) (k2 := 67) kx_292_188 kp_292_63 (tk_63 hT) kf_12_17 (by decide) (rq_63_17 hI18) ?_
                              refine s_bipush (v := 8) kx_292_191 (by decide) ?_
                              refine s_aload_n kx_292_193 rfl ?_
                              refine r_getK (k := 63) (f := 14) kx_292_194 kp_292_54 (tk_63 hT) kf_12_14 (fun _ => rfl) ((fl18 63 14 rfl).trans ((u16.2 63 14 (by omega)).trans ((fr15 63 14 rfl).trans v1e))) ?_
                              refine r_mul kx_292_197 ⟨by omega, by omega⟩ ?_
                              refine s_iload_n kx_292_198 rfl ?_
                              refine r_add kx_292_199 ⟨by omega, by omega⟩ ?_
                              refine r_aldU (k := 67) kx_292_200 (tk_67 hT) ⟨by omega, by omega⟩ (fun v43 v43e => ?_)
                              refine s_icmp_le (t := 206) kx_292_201 (by decide) (fun hc44 => ?_) (fun hc44 => ?_)
                              · refine r_iinc kx_292_206 rfl km_292_3 (by decide) ⟨by omega, by omega⟩ rfl ?_
                                refine s_goto (t := 117) kx_292_209 (by decide) ?_
                                exact cP.wk (lS1 rfl (lS1 rfl lS0)) (ih32 (x3_27 + 1) (by omega) (by omega))
                              · refine s_iconst (v := 0) kx_292_204 (by decide) ?_
                                exact s_iret kx_292_205 (Or.inr ⟨kq_292, by omega⟩) ⟨_, _, rfl, rfl, hI18, hFm18, (Or.inr rfl)⟩
                            · refine s_iload kx_292_150 rfl ?_
                              refine s_aload_n kx_292_152 rfl ?_
                              refine r_getR (k := 63) (f := 49) (k2 := 93) kx_292_153 kp_292_162 (tk_63 hT) kf_12_49 (by decide) (rq_63_49 hI18) ?_
                              refine s_bipush (v := 8) kx_292_156 (by decide) ?_
                              refine s_iload kx_292_158 rfl ?_
                              refine r_add kx_292_160 ⟨by omega, by omega⟩ ?_
                              refine r_aldU (k := 93) kx_292_161 (tk_93 hT) ⟨by omega, by omega⟩ (fun v45 v45e => ?_)
                              refine s_iload_n kx_292_162 rfl ?_
                              refine s_icmp_ne (t := 175) kx_292_163 (by decide) (fun hc46 => ?_) (fun hc46 => ?_)
                              · refine s_iconst (v := 0) kx_292_175 (by decide) ?_
                                refine r_iaddR kx_292_176 (fun v47 v47a v47b => ?_)
                                refine s_istore kx_292_177 km_292_4 rfl ?_
                                refine r_iinc kx_292_179 rfl km_292_5 (by decide) ⟨by omega, by omega⟩ rfl ?_
                                refine s_goto (t := 136) kx_292_182 (by decide) ?_
                                exact cP.wk (lS1 rfl (lS1 rfl (lS1 rfl (lS1 rfl lS0)))) (ih41 v47 (x5_36 + 1) (by omega) (by omega))
                              · refine s_aload_n kx_292_166 rfl ?_
                                refine s_iload kx_292_167 rfl ?_
                                refine s_callV2 (k := 63) (s1 := 2) (s2 := 1) (as := [(0, x5_36)]) (rest := [(0, x4_35)]) kx_292_169 kp_292_484 (Or.inl rfl) rfl (tk_63 hT) ki_237 kcl_237 rfl rfl (by decide) (m_237 (d := d + 1) (c := x5_36) hT hI18 (by omega)) (kF (fun v48 v48p => ?_))
                                refine s_goto (t := 176) kx_292_172 (by decide) ?_
                                refine r_iaddR kx_292_176 (fun v49 v49a v49b => ?_)
                                refine s_istore kx_292_177 km_292_4 rfl ?_
                                refine r_iinc kx_292_179 rfl km_292_5 (by decide) ⟨by omega, by omega⟩ rfl ?_
                                refine s_goto (t := 136) kx_292_182 (by decide) ?_
                                exact cP.wk (lS1 rfl (lS1 rfl (lS1 rfl (lS1 rfl lS0)))) (ih41 v49 (x5_36 + 1) (by omega) (by omega))
                        exact cP.wk (lS1 rfl (lS1 rfl (lS1 rfl (lS1 rfl lS0)))) (key37 _ 0 0 (by omega) (Nat.lt_succ_self _))
                  exact cP.wk (lS1 rfl (lS1 rfl lS0)) (key28 _ 0 (by omega) (Nat.lt_succ_self _))
                · refine s_aload_n kx_292_95 rfl ?_
                  refine s_iload_n kx_292_96 rfl ?_
                  refine s_bipush (v := 9) kx_292_97 (by decide) ?_
                  refine s_iload_n kx_292_99 rfl ?_
                  refine r_mul kx_292_100 ⟨by omega, by omega⟩ ?_
                  refine s_callV2 (k := 63) (s1 := 3) (s2 := 0) (as := [(0, (9 * x3_17)), (0, x3_17)]) (rest := []) kx_292_101 kp_292_618 (Or.inl rfl) rfl (tk_63 hT) ki_291 kcl_291 rfl rfl (by decide) (m_291 (d := d) (p := x3_17) (at_ := (9 * x3_17)) hT hI18 (by omega) (by omega)) (kW (fun v50 M51 hI51 fr51 v50p => ?_))
                  have hFm51 := hFm18.call fr51 rfl
                  have hFl8251 := fl18.call fr51 rfl
                  refine s_if_ne (t := 109) kx_292_104 (by decide) (fun hc52 => ?_) (fun hc52 => ?_)
                  · replace v50p := v50p.resolve_right (by omega)
                    refine r_iinc kx_292_109 rfl km_292_3 (by decide) ⟨by omega, by omega⟩ rfl ?_
                    refine s_goto (t := 82) kx_292_112 (by decide) ?_
                    exact cP.wk (lS1 rfl (lS1 rfl lS0)) (ih25 (x3_17 + 1) M51 hI51 hFm51 hFl8251 (by omega) (v50p.2.1 i22) (v50p.2.2 i23) (by omega))
                  · replace v50p := v50p.resolve_left (by omega)
                    refine s_iconst (v := 0) kx_292_107 (by decide) ?_
                    exact s_iret kx_292_108 (Or.inr ⟨kq_292, by omega⟩) ⟨_, _, rfl, rfl, hI51, hFm51, (Or.inr rfl)⟩
            exact cP.wk (lS1 rfl (lS1 rfl lS0)) (key19 _ 0 M16 hI16 hFm16 Fr.refl (by omega) (zR.up v14p.1 u16 (fun e => absurd e (by decide))) (zR.up v14p.2 u16 (fun e => absurd e (by decide))) (Nat.lt_succ_self _))
          · refine s_iconst (v := 0) kx_292_65 (by decide) ?_
            exact s_iret kx_292_66 (Or.inr ⟨kq_292, by omega⟩) ⟨_, _, rfl, rfl, hI, hFm, (Or.inr rfl)⟩
        · refine s_iconst (v := 5) kx_292_32 (by decide) ?_
          refine s_iload_n kx_292_33 rfl ?_
          refine r_imulR kx_292_34 (fun v53 v53a v53b => ?_)
          refine s_aload_n kx_292_35 rfl ?_
          refine r_getR (k := 63) (f := 0) (k2 := 64) kx_292_36 kp_292_7 (tk_63 hT) kf_12_0 (by decide) (rq_63_0 hI) ?_
          refine s_iload_n kx_292_39 rfl ?_
          refine r_ald (k := 64) kx_292_40 (tk_64 hT) ⟨by omega, by omega⟩ (rg_64 hI) (fun v54 v54e v54a v54b => ?_)
          refine r_iaddR kx_292_41 (fun v55 v55a v55b => ?_)
          refine s_sipush (v := 251) kx_292_42 (by decide) ?_
          refine r_iremR kx_292_45 (by omega) (fun v56 v56a v56b => ?_)
          refine s_istore_n kx_292_46 km_292_2 rfl ?_
          refine r_iinc kx_292_47 rfl km_292_3 (by decide) ⟨by omega, by omega⟩ rfl ?_
          refine s_goto (t := 25) kx_292_50 (by decide) ?_
          exact cP.wk (lS1 rfl (lS1 rfl (lS1 rfl (lS1 rfl lS0)))) (ih10 v56 (x3_5 + 1) (by omega) (by omega))
    exact cP.wk (lS1 rfl (lS1 rfl (lS1 rfl (lS1 rfl lS0)))) (key6 _ 113 0 (by omega) (Nat.lt_succ_self _))
  · refine s_iconst (v := 0) kx_292_18 (by decide) ?_
    exact s_iret kx_292_19 (Or.inr ⟨kq_292, by omega⟩) ⟨_, _, rfl, rfl, hI, hFm, (Or.inr rfl)⟩
theorem kx_293_0 : x_code k_P 293 0 = some (.aload_n 0, 1) := by decide +kernel
theorem kx_293_1 : x_code k_P 293 1 = some (.getfield 13, 3) := by decide +kernel
theorem kp_293_13 : x_pool k_P 293 13 = (1, 12, 1) := by decide +kernel
theorem kx_293_4 : x_code k_P 293 4 = some (.istore_n 1, 1) := by decide +kernel
theorem km_293_1 : 1 < x_maxL k_P 293 := by decide +kernel
theorem kx_293_5 : x_code k_P 293 5 = some (.aload_n 0, 1) := by decide +kernel
theorem kx_293_6 : x_code k_P 293 6 = some (.iconst 0, 1) := by decide +kernel
theorem kx_293_7 : x_code k_P 293 7 = some (.putfield 13, 3) := by decide +kernel
theorem kx_293_10 : x_code k_P 293 10 = some (.aload_n 0, 1) := by decide +kernel
theorem kx_293_11 : x_code k_P 293 11 = some (.iload_n 1, 1) := by decide +kernel
theorem kx_293_12 : x_code k_P 293 12 = some (.invokevirtual 621, 3) := by decide +kernel
theorem kp_293_621 : x_pool k_P 293 621 = (2, 292, 1) := by decide +kernel
theorem ki_292 : x_mci k_P 292 = 12 := by decide +kernel
theorem kcl_292 : x_maxL k_P 292 ≤ 60 ∧ 2 ≤ x_maxL k_P 292 := by decide +kernel
theorem kx_293_15 : x_code k_P 293 15 = some (.ifCond .ne 17, 3) := by decide +kernel
theorem kx_293_32 : x_code k_P 293 32 = some (.aload_n 0, 1) := by decide +kernel
theorem kx_293_33 : x_code k_P 293 33 = some (.iconst 0, 1) := by decide +kernel
theorem kx_293_34 : x_code k_P 293 34 = some (.iconst 1, 1) := by decide +kernel
theorem kx_293_35 : x_code k_P 293 35 = some (.invokevirtual 452, 3) := by decide +kernel
theorem kp_293_452 : x_pool k_P 293 452 = (2, 224, 2) := by decide +kernel
theorem kx_293_38 : x_code k_P 293 38 = some (.aload_n 0, 1) := by decide +kernel
theorem kx_293_39 : x_code k_P 293 39 = some (.iconst 0, 1) := by decide +kernel
theorem kx_293_40 : x_code k_P 293 40 = some (.putfield 192, 3) := by decide +kernel
theorem kp_293_192 : x_pool k_P 293 192 = (1, 12, 59) := by decide +kernel
theorem kx_293_43 : x_code k_P 293 43 = some (.iconst 1, 1) := by decide +kernel
theorem kx_293_44 : x_code k_P 293 44 = some (.ireturn, 1) := by decide +kernel
theorem kq_293 : x_retk k_P 293 = 2 := by decide +kernel
theorem kx_293_18 : x_code k_P 293 18 = some (.aload_n 0, 1) := by decide +kernel
theorem kx_293_19 : x_code k_P 293 19 = some (.iconst 5, 1) := by decide +kernel
theorem kx_293_20 : x_code k_P 293 20 = some (.invokevirtual 255, 3) := by decide +kernel
theorem kp_293_255 : x_pool k_P 293 255 = (2, 218, 1) := by decide +kernel
theorem kx_293_23 : x_code k_P 293 23 = some (.ifCond .lt 7, 3) := by decide +kernel
theorem kx_293_30 : x_code k_P 293 30 = some (.iconst 0, 1) := by decide +kernel
theorem kx_293_31 : x_code k_P 293 31 = some (.ireturn, 1) := by decide +kernel
def fS_293_m : List (Nat × Nat) := [(100, 99999), (101, 99999), (63, 1), (63, 59), (91, 99999), (92, 99999), (93, 99999), (94, 99999), (95, 99999), (96, 99999), (97, 99999), (98, 99999), (99, 99999)]
theorem m_293 {xs : Nat → Int} {Ln d : Nat} {T : List cK} {M : cM} (hT : TT T) (hI : Rng M) : cC k_P xs Ln (d + 3) 293 [rf 63] (T, M) (qW T M fS_293_m 0 (fun v M1 => 0 ≤ v ∧ v ≤ 1 ∧ M1 63 1 = 0)) := by
  show cP k_P xs Ln (d + 3) 293 0 [(0, rf 63)] [] (T, M) _
  have hFm : Fr fS_293_m M M := Fr.refl
  refine s_aload_n kx_293_0 rfl ?_
  refine r_getI (k := 63) (f := 1) kx_293_1 kp_293_13 (tk_63 hT) kf_12_1 (fun _ => rfl) (rg_63_1 hI) (fun v1 v1e v1a v1b => ?_)
  refine s_istore_n kx_293_4 km_293_1 rfl ?_
  refine s_aload_n kx_293_5 rfl ?_
  refine s_iconst (v := 0) kx_293_6 (by decide) ?_
  refine r_put (k := 63) (f := 1) kx_293_7 kp_293_13 (tk_63 hT) kf_12_1 rfl (by decide) (by decide) hI (ru_63_1 (by omega) (by omega)) (fun M2 hI2 u2 => ?_)
  have hFm2 := hFm.up u2 rfl
  refine s_aload_n kx_293_10 rfl ?_
  refine s_iload_n kx_293_11 rfl ?_
  refine s_callV2 (k := 63) (s1 := 2) (s2 := 0) (as := [(0, v1)]) (rest := []) kx_293_12 kp_293_621 (Or.inl rfl) rfl (tk_63 hT) ki_292 kcl_292 rfl rfl (by decide) (m_292 (d := d) (n := v1) hT hI2 (by omega)) (kW (fun v3 M4 hI4 fr4 v3p => ?_))
  have hFm4 := hFm2.call fr4 rfl
  refine s_if_ne (t := 32) kx_293_15 (by decide) (fun hc5 => ?_) (fun hc5 => ?_)
  · replace v3p := v3p.resolve_right (by omega)
    refine s_aload_n kx_293_32 rfl ?_
    refine s_iconst (v := 0) kx_293_33 (by decide) ?_
    refine s_iconst (v := 1) kx_293_34 (by decide) ?_
    refine s_callV2 (k := 63) (s1 := 3) (s2 := 0) (as := [(0, 1), (0, 0)]) (rest := []) kx_293_35 kp_293_452 (Or.inl rfl) rfl (tk_63 hT) ki_224 kcl_224 rfl rfl (by decide) (m_224 (d := d + 2) (to := 0) (from_ := 1) hT hI4 (by omega) (by omega) v3p.2.1 v3p.2.2) (kV (fun M7 hI7 fr7 v6p => ?_))
    have hFm7 := hFm4.call fr7 rfl
    refine s_aload_n kx_293_38 rfl ?_
    refine s_iconst (v := 0) kx_293_39 (by decide) ?_
    refine r_put (k := 63) (f := 59) kx_293_40 kp_293_192 (tk_63 hT) kf_12_59 rfl (by decide) (by decide) hI7 (ru_63_59 (by omega) (by omega)) (fun M8 hI8 u8 => ?_)
    have hFm8 := hFm7.up u8 rfl
    refine s_iconst (v := 1) kx_293_43 (by decide) ?_
    have hk9 : M8 63 1 = 0 := ((u8.2 63 1 (by omega)).trans ((fr7 63 1 rfl).trans ((fr4 63 1 rfl).trans u2.1)))
    exact s_iret kx_293_44 (Or.inr ⟨kq_293, by omega⟩) ⟨_, _, rfl, rfl, hI8, hFm8, (by omega)⟩
  · replace v3p := v3p.resolve_left (by omega)
    refine s_aload_n kx_293_18 rfl ?_
    refine s_iconst (v := 5) kx_293_19 (by decide) ?_
    refine s_callV2 (k := 63) (s1 := 2) (s2 := 0) (as := [(0, 5)]) (rest := []) kx_293_20 kp_293_255 (Or.inl rfl) rfl (tk_63 hT) ki_218 kcl_218 rfl rfl (by decide) (m_218 (d := d + 2) (kind := 5) hT hI4 (by omega)) (kW (fun v10 M11 hI11 fr11 v10p => ?_))
    have hFm11 := hFm4.call fr11 rfl
    refine s_if_lt (t := 30) kx_293_23 (by decide) (fun hc12 => ?_) (fun hc12 => absurd hc12 (by omega))
    refine s_iconst (v := 0) kx_293_30 (by decide) ?_
    have hk13 : M11 63 1 = 0 := ((fr11 63 1 rfl).trans ((fr4 63 1 rfl).trans u2.1))
    exact s_iret kx_293_31 (Or.inr ⟨kq_293, by omega⟩) ⟨_, _, rfl, rfl, hI11, hFm11, (by omega)⟩
theorem kx_286_0 : x_code k_P 286 0 = some (.aload_n 0, 1) := by decide +kernel
theorem kx_286_1 : x_code k_P 286 1 = some (.getfield 249, 3) := by decide +kernel
theorem kp_286_249 : x_pool k_P 286 249 = (1, 12, 78) := by decide +kernel
theorem kx_286_4 : x_code k_P 286 4 = some (.aload_n 0, 1) := by decide +kernel
theorem kx_286_5 : x_code k_P 286 5 = some (.getfield 252, 3) := by decide +kernel
theorem kp_286_252 : x_pool k_P 286 252 = (1, 12, 79) := by decide +kernel
theorem kx_286_8 : x_code k_P 286 8 = some (.iload_n 1, 1) := by decide +kernel
theorem kx_286_9 : x_code k_P 286 9 = some (.sipush 255, 3) := by decide +kernel
theorem kx_286_12 : x_code k_P 286 12 = some (.iand, 1) := by decide +kernel
theorem kx_286_13 : x_code k_P 286 13 = some (.iastore, 1) := by decide +kernel
theorem kx_286_14 : x_code k_P 286 14 = some (.aload_n 0, 1) := by decide +kernel
theorem kx_286_15 : x_code k_P 286 15 = some (.dup, 1) := by decide +kernel
theorem kx_286_16 : x_code k_P 286 16 = some (.getfield 252, 3) := by decide +kernel
theorem kx_286_19 : x_code k_P 286 19 = some (.iconst 1, 1) := by decide +kernel
theorem kx_286_20 : x_code k_P 286 20 = some (.iadd, 1) := by decide +kernel
theorem kx_286_21 : x_code k_P 286 21 = some (.putfield 252, 3) := by decide +kernel
theorem kx_286_24 : x_code k_P 286 24 = some (.return_, 1) := by decide +kernel
theorem kq_286 : x_retk k_P 286 = 0 := by decide +kernel
def fS_286_m : List (Nat × Nat) := [(113, 99999), (63, 79)]
theorem m_286 {xs : Nat → Int} {Ln d : Nat} {T : List cK} {M : cM} (hT : TT T) (hI : Rng M) {x : Int} (p0 : M 63 79 ≤ 79) : cC k_P xs Ln (d + 0) 286 [rf 63, (0, x)] (T, M) (qV T M fS_286_m (fun M1 => M1 63 79 = M 63 79 + 1)) := by
  show cP k_P xs Ln (d + 0) 286 0 [(0, rf 63), (1, (0, x))] [] (T, M) _
  have hFm : Fr fS_286_m M M := Fr.refl
  refine s_aload_n kx_286_0 rfl ?_
  refine r_getR (k := 63) (f := 78) (k2 := 113) kx_286_1 kp_286_249 (tk_63 hT) kf_12_78 (by decide) (rq_63_78 hI) ?_
  refine s_aload_n kx_286_4 rfl ?_
  refine r_getI (k := 63) (f := 79) kx_286_5 kp_286_252 (tk_63 hT) kf_12_79 (fun _ => rfl) (rg_63_79 hI) (fun v1 v1e v1a v1b => ?_)
  refine s_iload_n kx_286_8 rfl ?_
  refine s_sipush (v := 255) kx_286_9 (by decide) ?_
  refine r_iandM kx_286_12 (by decide) (by decide) (fun v2 v2a v2b => ?_)
  refine r_ast (k := 113) kx_286_13 (tk_113 hT) ⟨by omega, by omega⟩ hI ru_113 (fun M3 hI3 u3 => ?_)
  have hFm3 := hFm.up u3 rfl
  refine s_aload_n kx_286_14 rfl ?_
  refine s_dup kx_286_15 rfl ?_
  refine r_getK (k := 63) (f := 79) kx_286_16 kp_286_252 (tk_63 hT) kf_12_79 (fun _ => rfl) ((u3.2 63 79 (by omega)).trans v1e) ?_
  refine s_iconst (v := 1) kx_286_19 (by decide) ?_
  refine r_add kx_286_20 ⟨by omega, by omega⟩ ?_
  refine r_put (k := 63) (f := 79) kx_286_21 kp_286_252 (tk_63 hT) kf_12_79 rfl (by decide) (by decide) hI3 (ru_63_79 (by omega) (by omega)) (fun M4 hI4 u4 => ?_)
  have hFm4 := hFm3.up u4 rfl
  have hk5 : M4 63 79 = (v1 + 1) := u4.1
  exact s_vret kx_286_24 kq_286 ⟨_, rfl, rfl, hI4, hFm4, (by omega)⟩
theorem kx_287_0 : x_code k_P 287 0 = some (.aload_n 0, 1) := by decide +kernel
theorem kx_287_1 : x_code k_P 287 1 = some (.iload_n 1, 1) := by decide +kernel
theorem kx_287_2 : x_code k_P 287 2 = some (.bipush 16, 2) := by decide +kernel
theorem kx_287_4 : x_code k_P 287 4 = some (.ishr, 1) := by decide +kernel
theorem kx_287_5 : x_code k_P 287 5 = some (.invokevirtual 609, 3) := by decide +kernel
theorem kp_287_609 : x_pool k_P 287 609 = (2, 286, 1) := by decide +kernel
theorem ki_286 : x_mci k_P 286 = 12 := by decide +kernel
theorem kcl_286 : x_maxL k_P 286 ≤ 60 ∧ 2 ≤ x_maxL k_P 286 := by decide +kernel
theorem kx_287_8 : x_code k_P 287 8 = some (.aload_n 0, 1) := by decide +kernel
theorem kx_287_9 : x_code k_P 287 9 = some (.iload_n 1, 1) := by decide +kernel
theorem kx_287_10 : x_code k_P 287 10 = some (.bipush 8, 2) := by decide +kernel
theorem kx_287_12 : x_code k_P 287 12 = some (.ishr, 1) := by decide +kernel
theorem kx_287_13 : x_code k_P 287 13 = some (.invokevirtual 609, 3) := by decide +kernel
theorem kx_287_16 : x_code k_P 287 16 = some (.aload_n 0, 1) := by decide +kernel
theorem kx_287_17 : x_code k_P 287 17 = some (.iload_n 1, 1) := by decide +kernel
theorem kx_287_18 : x_code k_P 287 18 = some (.invokevirtual 609, 3) := by decide +kernel
theorem kx_287_21 : x_code k_P 287 21 = some (.return_, 1) := by decide +kernel
theorem kq_287 : x_retk k_P 287 = 0 := by decide +kernel
def fS_287_m : List (Nat × Nat) := [(113, 99999), (63, 79)]
theorem m_287 {xs : Nat → Int} {Ln d : Nat} {T : List cK} {M : cM} (hT : TT T) (hI : Rng M) {x : Int} (p0 : M 63 79 ≤ 77) : cC k_P xs Ln (d + 1) 287 [rf 63, (0, x)] (T, M) (qV T M fS_287_m (fun M1 => M1 63 79 = M 63 79 + 3)) := by
  show cP k_P xs Ln (d + 1) 287 0 [(0, rf 63), (1, (0, x))] [] (T, M) _
  have hFm : Fr fS_287_m M M := Fr.refl
  refine s_aload_n kx_287_0 rfl ?_
  refine s_iload_n kx_287_1 rfl ?_
  refine s_bipush (v := 16) kx_287_2 (by decide) ?_
  refine r_ishrR kx_287_4 (fun v1 v1a v1b => ?_)
  refine s_callV2 (k := 63) (s1 := 2) (s2 := 0) (as := [(0, v1)]) (rest := []) kx_287_5 kp_287_609 (Or.inl rfl) rfl (tk_63 hT) ki_286 kcl_286 rfl rfl (by decide) (m_286 (d := d) (x := v1) hT hI (by omega)) (kV (fun M3 hI3 fr3 v2p => ?_))
  have hFm3 := hFm.call fr3 rfl
  refine s_aload_n kx_287_8 rfl ?_
  refine s_iload_n kx_287_9 rfl ?_
  refine s_bipush (v := 8) kx_287_10 (by decide) ?_
  refine r_ishrR kx_287_12 (fun v4 v4a v4b => ?_)
  refine s_callV2 (k := 63) (s1 := 2) (s2 := 0) (as := [(0, v4)]) (rest := []) kx_287_13 kp_287_609 (Or.inl rfl) rfl (tk_63 hT) ki_286 kcl_286 rfl rfl (by decide) (m_286 (d := d) (x := v4) hT hI3 (by omega)) (kV (fun M6 hI6 fr6 v5p => ?_))
  have hFm6 := hFm3.call fr6 rfl
  refine s_aload_n kx_287_16 rfl ?_
  refine s_iload_n kx_287_17 rfl ?_
  refine s_callV2 (k := 63) (s1 := 2) (s2 := 0) (as := [(0, x)]) (rest := []) kx_287_18 kp_287_609 (Or.inl rfl) rfl (tk_63 hT) ki_286 kcl_286 rfl rfl (by decide) (m_286 (d := d) (x := x) hT hI6 (by omega)) (kV (fun M8 hI8 fr8 v7p => ?_))
  have hFm8 := hFm6.call fr8 rfl
  exact s_vret kx_287_21 kq_287 ⟨_, rfl, rfl, hI8, hFm8, (by omega)⟩
theorem kx_288_0 : x_code k_P 288 0 = some (.aload_n 0, 1) := by decide +kernel
theorem kx_288_1 : x_code k_P 288 1 = some (.iconst 0, 1) := by decide +kernel
theorem kx_288_2 : x_code k_P 288 2 = some (.putfield 252, 3) := by decide +kernel
theorem kp_288_252 : x_pool k_P 288 252 = (1, 12, 79) := by decide +kernel
theorem kx_288_5 : x_code k_P 288 5 = some (.iconst 0, 1) := by decide +kernel
theorem kx_288_6 : x_code k_P 288 6 = some (.istore_n 1, 1) := by decide +kernel
theorem km_288_1 : 1 < x_maxL k_P 288 := by decide +kernel
theorem kx_288_7 : x_code k_P 288 7 = some (.iload_n 1, 1) := by decide +kernel
theorem kx_288_8 : x_code k_P 288 8 = some (.aload_n 0, 1) := by decide +kernel
theorem kx_288_9 : x_code k_P 288 9 = some (.getfield 69, 3) := by decide +kernel
theorem kp_288_69 : x_pool k_P 288 69 = (1, 12, 19) := by decide +kernel
theorem kx_288_12 : x_code k_P 288 12 = some (.aload_n 0, 1) := by decide +kernel
theorem kx_288_13 : x_code k_P 288 13 = some (.getfield 54, 3) := by decide +kernel
theorem kp_288_54 : x_pool k_P 288 54 = (1, 12, 14) := by decide +kernel
theorem kx_288_16 : x_code k_P 288 16 = some (.iaload, 1) := by decide +kernel
theorem kx_288_17 : x_code k_P 288 17 = some (.if_icmp .ge 59, 3) := by decide +kernel
theorem kx_288_76 : x_code k_P 288 76 = some (.bipush 113, 2) := by decide +kernel
theorem kx_288_78 : x_code k_P 288 78 = some (.istore_n 1, 1) := by decide +kernel
theorem kx_288_79 : x_code k_P 288 79 = some (.iconst 0, 1) := by decide +kernel
theorem kx_288_80 : x_code k_P 288 80 = some (.istore_n 2, 1) := by decide +kernel
theorem km_288_2 : 2 < x_maxL k_P 288 := by decide +kernel
theorem kx_288_81 : x_code k_P 288 81 = some (.iload_n 2, 1) := by decide +kernel
theorem kx_288_82 : x_code k_P 288 82 = some (.aload_n 0, 1) := by decide +kernel
theorem kx_288_83 : x_code k_P 288 83 = some (.getfield 252, 3) := by decide +kernel
theorem kx_288_86 : x_code k_P 288 86 = some (.if_icmp .ge 24, 3) := by decide +kernel
theorem kx_288_110 : x_code k_P 288 110 = some (.aload_n 0, 1) := by decide +kernel
theorem kx_288_111 : x_code k_P 288 111 = some (.iload_n 1, 1) := by decide +kernel
theorem kx_288_112 : x_code k_P 288 112 = some (.invokevirtual 609, 3) := by decide +kernel
theorem kp_288_609 : x_pool k_P 288 609 = (2, 286, 1) := by decide +kernel
theorem kx_288_115 : x_code k_P 288 115 = some (.aload_n 0, 1) := by decide +kernel
theorem kx_288_116 : x_code k_P 288 116 = some (.getfield 252, 3) := by decide +kernel
theorem kx_288_119 : x_code k_P 288 119 = some (.ireturn, 1) := by decide +kernel
theorem kq_288 : x_retk k_P 288 = 1 := by decide +kernel
theorem kx_288_20 : x_code k_P 288 20 = some (.aload_n 0, 1) := by decide +kernel
theorem kx_288_21 : x_code k_P 288 21 = some (.aload_n 0, 1) := by decide +kernel
theorem kx_288_22 : x_code k_P 288 22 = some (.getfield 159, 3) := by decide +kernel
theorem kp_288_159 : x_pool k_P 288 159 = (1, 12, 48) := by decide +kernel
theorem kx_288_25 : x_code k_P 288 25 = some (.iload_n 1, 1) := by decide +kernel
theorem kx_288_26 : x_code k_P 288 26 = some (.iaload, 1) := by decide +kernel
theorem kx_288_27 : x_code k_P 288 27 = some (.invokevirtual 609, 3) := by decide +kernel
theorem kx_288_30 : x_code k_P 288 30 = some (.aload_n 0, 1) := by decide +kernel
theorem kx_288_31 : x_code k_P 288 31 = some (.aload_n 0, 1) := by decide +kernel
theorem kx_288_32 : x_code k_P 288 32 = some (.getfield 162, 3) := by decide +kernel
theorem kp_288_162 : x_pool k_P 288 162 = (1, 12, 49) := by decide +kernel
theorem kx_288_35 : x_code k_P 288 35 = some (.iload_n 1, 1) := by decide +kernel
theorem kx_288_36 : x_code k_P 288 36 = some (.iaload, 1) := by decide +kernel
theorem kx_288_37 : x_code k_P 288 37 = some (.invokevirtual 609, 3) := by decide +kernel
theorem kx_288_40 : x_code k_P 288 40 = some (.aload_n 0, 1) := by decide +kernel
theorem kx_288_41 : x_code k_P 288 41 = some (.aload_n 0, 1) := by decide +kernel
theorem kx_288_42 : x_code k_P 288 42 = some (.getfield 165, 3) := by decide +kernel
theorem kp_288_165 : x_pool k_P 288 165 = (1, 12, 50) := by decide +kernel
theorem kx_288_45 : x_code k_P 288 45 = some (.iload_n 1, 1) := by decide +kernel
theorem kx_288_46 : x_code k_P 288 46 = some (.iaload, 1) := by decide +kernel
theorem kx_288_47 : x_code k_P 288 47 = some (.invokevirtual 609, 3) := by decide +kernel
theorem kx_288_50 : x_code k_P 288 50 = some (.aload_n 0, 1) := by decide +kernel
theorem kx_288_51 : x_code k_P 288 51 = some (.aload_n 0, 1) := by decide +kernel
theorem kx_288_52 : x_code k_P 288 52 = some (.getfield 168, 3) := by decide +kernel
theorem kp_288_168 : x_pool k_P 288 168 = (1, 12, 51) := by decide +kernel
theorem kx_288_55 : x_code k_P 288 55 = some (.iload_n 1, 1) := by decide +kernel
theorem kx_288_56 : x_code k_P 288 56 = some (.iaload, 1) := by decide +kernel
theorem kx_288_57 : x_code k_P 288 57 = some (.invokevirtual 612, 3) := by decide +kernel
theorem kp_288_612 : x_pool k_P 288 612 = (2, 287, 1) := by decide +kernel
theorem ki_287 : x_mci k_P 287 = 12 := by decide +kernel
theorem kcl_287 : x_maxL k_P 287 ≤ 60 ∧ 2 ≤ x_maxL k_P 287 := by decide +kernel
theorem kx_288_60 : x_code k_P 288 60 = some (.aload_n 0, 1) := by decide +kernel
theorem kx_288_61 : x_code k_P 288 61 = some (.aload_n 0, 1) := by decide +kernel
theorem kx_288_62 : x_code k_P 288 62 = some (.getfield 171, 3) := by decide +kernel
theorem kp_288_171 : x_pool k_P 288 171 = (1, 12, 52) := by decide +kernel
theorem kx_288_65 : x_code k_P 288 65 = some (.iload_n 1, 1) := by decide +kernel
theorem kx_288_66 : x_code k_P 288 66 = some (.iaload, 1) := by decide +kernel
theorem kx_288_67 : x_code k_P 288 67 = some (.invokevirtual 612, 3) := by decide +kernel
theorem kx_288_70 : x_code k_P 288 70 = some (.iinc 1 1, 3) := by decide +kernel
theorem kx_288_73 : x_code k_P 288 73 = some (.goto (-66), 3) := by decide +kernel
theorem kx_288_89 : x_code k_P 288 89 = some (.iconst 5, 1) := by decide +kernel
theorem kx_288_90 : x_code k_P 288 90 = some (.iload_n 1, 1) := by decide +kernel
theorem kx_288_91 : x_code k_P 288 91 = some (.imul, 1) := by decide +kernel
theorem kx_288_92 : x_code k_P 288 92 = some (.aload_n 0, 1) := by decide +kernel
theorem kx_288_93 : x_code k_P 288 93 = some (.getfield 249, 3) := by decide +kernel
theorem kp_288_249 : x_pool k_P 288 249 = (1, 12, 78) := by decide +kernel
theorem kx_288_96 : x_code k_P 288 96 = some (.iload_n 2, 1) := by decide +kernel
theorem kx_288_97 : x_code k_P 288 97 = some (.iaload, 1) := by decide +kernel
theorem kx_288_98 : x_code k_P 288 98 = some (.iadd, 1) := by decide +kernel
theorem kx_288_99 : x_code k_P 288 99 = some (.sipush 251, 3) := by decide +kernel
theorem kx_288_102 : x_code k_P 288 102 = some (.irem, 1) := by decide +kernel
theorem kx_288_103 : x_code k_P 288 103 = some (.istore_n 1, 1) := by decide +kernel
theorem kx_288_104 : x_code k_P 288 104 = some (.iinc 2 1, 3) := by decide +kernel
theorem kx_288_107 : x_code k_P 288 107 = some (.goto (-26), 3) := by decide +kernel
def fS_288_l7 : List (Nat × Nat) := [(113, 99999), (63, 79)]
def fS_288_m : List (Nat × Nat) := [(113, 99999), (63, 79)]
def fS_288_l81 : List (Nat × Nat) := []
theorem m_288 {xs : Nat → Int} {Ln d : Nat} {T : List cK} {M : cM} (hT : TT T) (hI : Rng M) : cC k_P xs Ln (d + 2) 288 [rf 63] (T, M) (qW T M fS_288_m 0 (fun v M1 => True)) := by
  show cP k_P xs Ln (d + 2) 288 0 [(0, rf 63)] [] (T, M) _
  have hFm : Fr fS_288_m M M := Fr.refl
  refine s_aload_n kx_288_0 rfl ?_
  refine s_iconst (v := 0) kx_288_1 (by decide) ?_
  refine r_put (k := 63) (f := 79) kx_288_2 kp_288_252 (tk_63 hT) kf_12_79 rfl (by decide) (by decide) hI (ru_63_79 (by omega) (by omega)) (fun M1 hI1 u1 => ?_)
  have hFm1 := hFm.up u1 rfl
  refine s_iconst (v := 0) kx_288_5 (by decide) ?_
  refine s_istore_n kx_288_6 km_288_1 rfl ?_
  have key4 : ∀ n5 : Nat, ∀ (x1_2 : Int), ∀ M3 : cM, Rng M3 → Fr fS_288_m M M3 → Fr fS_288_l7 M1 M3 → (0 ≤ x1_2) → (x1_2 ≤ 8) → (M3 63 79 = 9 * x1_2) → (2147483647 - x1_2).toNat < n5 → cP k_P xs Ln (d + 2) 288 7 [(0, rf 63), (1, (0, x1_2))] [] (T, M3) (qW T M fS_288_m 0 (fun v M1 => True)) := by
    intro n5
    induction n5 with
    | zero => intro x1_2 M3 hI3 hFm3 fl3 i6 i7 i8 hm9; exact absurd hm9 (Nat.not_lt_zero _)
    | succ n5 ih10 =>
      intro x1_2 M3 hI3 hFm3 fl3 i6 i7 i8 hm9
      refine s_iload_n kx_288_7 rfl ?_
      refine s_aload_n kx_288_8 rfl ?_
      refine r_getR (k := 63) (f := 19) (k2 := 69) kx_288_9 kp_288_69 (tk_63 hT) kf_12_19 (by decide) (rq_63_19 hI3) ?_
      refine s_aload_n kx_288_12 rfl ?_
      refine r_getI (k := 63) (f := 14) kx_288_13 kp_288_54 (tk_63 hT) kf_12_14 (fun _ => rfl) (rg_63_14 hI3) (fun v11 v11e v11a v11b => ?_)
      have v11z : M 63 14 = v11 := (((fl3 63 14 rfl).trans (u1.2 63 14 (by omega)))).symm.trans v11e
      refine r_ald (k := 69) kx_288_16 (tk_69 hT) ⟨by omega, by omega⟩ (rg_69 hI3) (fun v12 v12e v12a v12b => ?_)
      refine s_icmp_ge (t := 76) kx_288_17 (by decide) (fun hc13 => ?_) (fun hc13 => ?_)
      · refine s_bipush (v := 113) kx_288_76 (by decide) ?_
        refine s_istore_n kx_288_78 km_288_1 rfl ?_
        refine s_iconst (v := 0) kx_288_79 (by decide) ?_
        refine s_istore_n kx_288_80 km_288_2 rfl ?_
        have key16 : ∀ n17 : Nat, ∀ (x1_14 x2_15 : Int), (0 ≤ x2_15) → (M3 63 79 ≤ 72) → (2147483647 - x2_15).toNat < n17 → cP k_P xs Ln (d + 2) 288 81 [(0, rf 63), (1, (0, x1_14)), (2, (0, x2_15))] [] (T, M3) (qW T M fS_288_m 0 (fun v M1 => True)) := by
          intro n17
          induction n17 with
          | zero => intro x1_14 x2_15 i18 i19 hm20; exact absurd hm20 (Nat.not_lt_zero _)
          | succ n17 ih21 =>
            intro x1_14 x2_15 i18 i19 hm20
            refine s_iload_n kx_288_81 rfl ?_
            refine s_aload_n kx_288_82 rfl ?_
            refine r_getI (k := 63) (f := 79) kx_288_83 kp_288_252 (tk_63 hT) kf_12_79 (fun _ => rfl) (rg_63_79 hI3) (fun v22 v22e v22a v22b => ?_)
            refine s_icmp_ge (t := 110) kx_288_86 (by decide) (fun hc23 => ?_) (fun hc23 => ?_)
            · refine s_aload_n kx_288_110 rfl ?_
              refine s_iload_n kx_288_111 rfl ?_
              refine s_callV2 (k := 63) (s1 := 2) (s2 := 0) (as := [(0, x1_14)]) (rest := []) kx_288_112 kp_288_609 (Or.inl rfl) rfl (tk_63 hT) ki_286 kcl_286 rfl rfl (by decide) (m_286 (d := d + 1) (x := x1_14) hT hI3 (by omega)) (kV (fun M25 hI25 fr25 v24p => ?_))
              have hFm25 := hFm3.call fr25 rfl
              refine s_aload_n kx_288_115 rfl ?_
              refine r_getI (k := 63) (f := 79) kx_288_116 kp_288_252 (tk_63 hT) kf_12_79 (fun _ => rfl) (rg_63_79 hI25) (fun v26 v26e v26a v26b => ?_)
              exact s_iret kx_288_119 (Or.inl kq_288) ⟨_, _, rfl, rfl, hI25, hFm25, trivial⟩
            · refine s_iconst (v := 5) kx_288_89 (by decide) ?_
              refine s_iload_n kx_288_90 rfl ?_
              refine r_imulR kx_288_91 (fun v27 v27a v27b => ?_)
              refine s_aload_n kx_288_92 rfl ?_
              refine r_getR (k := 63) (f := 78) (k2 := 113) kx_288_93 kp_288_249 (tk_63 hT) kf_12_78 (by decide) (rq_63_78 hI3) ?_
              refine s_iload_n kx_288_96 rfl ?_
              refine r_aldU (k := 113) kx_288_97 (tk_113 hT) ⟨by omega, by omega⟩ (fun v28 v28e => ?_)
              refine r_iaddR kx_288_98 (fun v29 v29a v29b => ?_)
              refine s_sipush (v := 251) kx_288_99 (by decide) ?_
              refine r_iremR kx_288_102 (by omega) (fun v30 v30a v30b => ?_)
              refine s_istore_n kx_288_103 km_288_1 rfl ?_
              refine r_iinc kx_288_104 rfl km_288_2 (by decide) ⟨by omega, by omega⟩ rfl ?_
              refine s_goto (t := 81) kx_288_107 (by decide) ?_
              exact cP.wk (lS1 rfl (lS1 rfl (lS1 rfl lS0))) (ih21 v30 (x2_15 + 1) (by omega) (by omega) (by omega))
        exact cP.wk (lS1 rfl (lS1 rfl (lS1 rfl lS0))) (key16 _ 113 0 (by omega) (by omega) (Nat.lt_succ_self _))
      · refine s_aload_n kx_288_20 rfl ?_
        refine s_aload_n kx_288_21 rfl ?_
        refine r_getR (k := 63) (f := 48) (k2 := 92) kx_288_22 kp_288_159 (tk_63 hT) kf_12_48 (by decide) (rq_63_48 hI3) ?_
        refine s_iload_n kx_288_25 rfl ?_
        refine r_ald (k := 92) kx_288_26 (tk_92 hT) ⟨by omega, by omega⟩ (rg_92 hI3 (by omega)) (fun v31 v31e v31a v31b => ?_)
        refine s_callV2 (k := 63) (s1 := 2) (s2 := 0) (as := [(0, v31)]) (rest := []) kx_288_27 kp_288_609 (Or.inl rfl) rfl (tk_63 hT) ki_286 kcl_286 rfl rfl (by decide) (m_286 (d := d + 1) (x := v31) hT hI3 (by omega)) (kV (fun M33 hI33 fr33 v32p => ?_))
        have hFm33 := hFm3.call fr33 rfl
        have hFl733 := fl3.call fr33 rfl
        refine s_aload_n kx_288_30 rfl ?_
        refine s_aload_n kx_288_31 rfl ?_
        refine r_getR (k := 63) (f := 49) (k2 := 93) kx_288_32 kp_288_162 (tk_63 hT) kf_12_49 (by decide) (rq_63_49 hI33) ?_
        refine s_iload_n kx_288_35 rfl ?_
        refine r_ald (k := 93) kx_288_36 (tk_93 hT) ⟨by omega, by omega⟩ (rg_93 hI33 (by omega)) (fun v34 v34e v34a v34b => ?_)
        refine s_callV2 (k := 63) (s1 := 2) (s2 := 0) (as := [(0, v34)]) (rest := []) kx_288_37 kp_288_609 (Or.inl rfl) rfl (tk_63 hT) ki_286 kcl_286 rfl rfl (by decide) (m_286 (d := d + 1) (x := v34) hT hI33 (by omega)) (kV (fun M36 hI36 fr36 v35p => ?_))
        have hFm36 := hFm33.call fr36 rfl
        have hFl736 := hFl733.call fr36 rfl
        refine s_aload_n kx_288_40 rfl ?_
        refine s_aload_n kx_288_41 rfl ?_
        refine r_getR (k := 63) (f := 50) (k2 := 94) kx_288_42 kp_288_165 (tk_63 hT) kf_12_50 (by decide) (rq_63_50 hI36) ?_
        refine s_iload_n kx_288_45 rfl ?_
        refine r_aldU (k := 94) kx_288_46 (tk_94 hT) ⟨by omega, by omega⟩ (fun v37 v37e => ?_)
        refine s_callV2 (k := 63) (s1 := 2) (s2 := 0) (as := [(0, v37)]) (rest := []) kx_288_47 kp_288_609 (Or.inl rfl) rfl (tk_63 hT) ki_286 kcl_286 rfl rfl (by decide) (m_286 (d := d + 1) (x := v37) hT hI36 (by omega)) (kV (fun M39 hI39 fr39 v38p => ?_))
        have hFm39 := hFm36.call fr39 rfl
        have hFl739 := hFl736.call fr39 rfl
        refine s_aload_n kx_288_50 rfl ?_
        refine s_aload_n kx_288_51 rfl ?_
        refine r_getR (k := 63) (f := 51) (k2 := 95) kx_288_52 kp_288_168 (tk_63 hT) kf_12_51 (by decide) (rq_63_51 hI39) ?_
        refine s_iload_n kx_288_55 rfl ?_
        refine r_aldU (k := 95) kx_288_56 (tk_95 hT) ⟨by omega, by omega⟩ (fun v40 v40e => ?_)
        refine s_callV2 (k := 63) (s1 := 2) (s2 := 0) (as := [(0, v40)]) (rest := []) kx_288_57 kp_288_612 (Or.inl rfl) rfl (tk_63 hT) ki_287 kcl_287 rfl rfl (by decide) (m_287 (d := d) (x := v40) hT hI39 (by omega)) (kV (fun M42 hI42 fr42 v41p => ?_))
        have hFm42 := hFm39.call fr42 rfl
        have hFl742 := hFl739.call fr42 rfl
        refine s_aload_n kx_288_60 rfl ?_
        refine s_aload_n kx_288_61 rfl ?_
        refine r_getR (k := 63) (f := 52) (k2 := 96) kx_288_62 kp_288_171 (tk_63 hT) kf_12_52 (by decide) (rq_63_52 hI42) ?_
        refine s_iload_n kx_288_65 rfl ?_
        refine r_aldU (k := 96) kx_288_66 (tk_96 hT) ⟨by omega, by omega⟩ (fun v43 v43e => ?_)
        refine s_callV2 (k := 63) (s1 := 2) (s2 := 0) (as := [(0, v43)]) (rest := []) kx_288_67 kp_288_612 (Or.inl rfl) rfl (tk_63 hT) ki_287 kcl_287 rfl rfl (by decide) (m_287 (d := d) (x := v43) hT hI42 (by omega)) (kV (fun M45 hI45 fr45 v44p => ?_))
        have hFm45 := hFm42.call fr45 rfl
        have hFl745 := hFl742.call fr45 rfl
        refine r_iinc kx_288_70 rfl km_288_1 (by decide) ⟨by omega, by omega⟩ rfl ?_
        refine s_goto (t := 7) kx_288_73 (by decide) ?_
        exact cP.wk (lS1 rfl (lS1 rfl lS0)) (ih10 (x1_2 + 1) M45 hI45 hFm45 hFl745 (by omega) (by omega) (by omega) (by omega))
  have hk46 : M1 63 79 = 0 := u1.1
  exact cP.wk (lS1 rfl (lS1 rfl lS0)) (key4 _ 0 M1 hI1 hFm1 Fr.refl (by omega) (by omega) (by omega) (Nat.lt_succ_self _))
theorem kx_276_0 : x_code k_P 276 0 = some (.aload_n 0, 1) := by decide +kernel
theorem kx_276_1 : x_code k_P 276 1 = some (.iload_n 1, 1) := by decide +kernel
theorem kx_276_2 : x_code k_P 276 2 = some (.invokevirtual 514, 3) := by decide +kernel
theorem kp_276_514 : x_pool k_P 276 514 = (2, 221, 1) := by decide +kernel
theorem kx_276_5 : x_code k_P 276 5 = some (.ifCond .eq 19, 3) := by decide +kernel
theorem kx_276_24 : x_code k_P 276 24 = some (.iconst 0, 1) := by decide +kernel
theorem kx_276_25 : x_code k_P 276 25 = some (.ireturn, 1) := by decide +kernel
theorem kq_276 : x_retk k_P 276 = 2 := by decide +kernel
theorem kx_276_8 : x_code k_P 276 8 = some (.iload_n 2, 1) := by decide +kernel
theorem kx_276_9 : x_code k_P 276 9 = some (.ifCond .eq 15, 3) := by decide +kernel
theorem kx_276_12 : x_code k_P 276 12 = some (.iload_n 2, 1) := by decide +kernel
theorem kx_276_13 : x_code k_P 276 13 = some (.iconst 2, 1) := by decide +kernel
theorem kx_276_14 : x_code k_P 276 14 = some (.irem, 1) := by decide +kernel
theorem kx_276_15 : x_code k_P 276 15 = some (.ifCond .gt 9, 3) := by decide +kernel
theorem kx_276_18 : x_code k_P 276 18 = some (.iload_n 2, 1) := by decide +kernel
theorem kx_276_19 : x_code k_P 276 19 = some (.bipush 24, 2) := by decide +kernel
theorem kx_276_21 : x_code k_P 276 21 = some (.if_icmp .le 5, 3) := by decide +kernel
theorem kx_276_26 : x_code k_P 276 26 = some (.aload_n 0, 1) := by decide +kernel
theorem kx_276_27 : x_code k_P 276 27 = some (.getfield 159, 3) := by decide +kernel
theorem kp_276_159 : x_pool k_P 276 159 = (1, 12, 48) := by decide +kernel
theorem kx_276_30 : x_code k_P 276 30 = some (.iload_n 1, 1) := by decide +kernel
theorem kx_276_31 : x_code k_P 276 31 = some (.iaload, 1) := by decide +kernel
theorem kx_276_32 : x_code k_P 276 32 = some (.istore_n 3, 1) := by decide +kernel
theorem km_276_3 : 3 < x_maxL k_P 276 := by decide +kernel
theorem kx_276_33 : x_code k_P 276 33 = some (.iconst 0, 1) := by decide +kernel
theorem kx_276_34 : x_code k_P 276 34 = some (.istore 4, 2) := by decide +kernel
theorem km_276_4 : 4 < x_maxL k_P 276 := by decide +kernel
theorem kx_276_36 : x_code k_P 276 36 = some (.iload 4, 2) := by decide +kernel
theorem kx_276_38 : x_code k_P 276 38 = some (.iload_n 2, 1) := by decide +kernel
theorem kx_276_39 : x_code k_P 276 39 = some (.if_icmp .ge 61, 3) := by decide +kernel
theorem kx_276_100 : x_code k_P 276 100 = some (.iconst 1, 1) := by decide +kernel
theorem kx_276_101 : x_code k_P 276 101 = some (.ireturn, 1) := by decide +kernel
theorem kx_276_42 : x_code k_P 276 42 = some (.aload_n 0, 1) := by decide +kernel
theorem kx_276_43 : x_code k_P 276 43 = some (.aload_n 0, 1) := by decide +kernel
theorem kx_276_44 : x_code k_P 276 44 = some (.getfield 7, 3) := by decide +kernel
theorem kp_276_7 : x_pool k_P 276 7 = (1, 12, 0) := by decide +kernel
theorem kx_276_47 : x_code k_P 276 47 = some (.iload 4, 2) := by decide +kernel
theorem kx_276_49 : x_code k_P 276 49 = some (.iaload, 1) := by decide +kernel
theorem kx_276_50 : x_code k_P 276 50 = some (.invokevirtual 508, 3) := by decide +kernel
theorem kp_276_508 : x_pool k_P 276 508 = (2, 220, 1) := by decide +kernel
theorem kx_276_53 : x_code k_P 276 53 = some (.ifCond .eq 31, 3) := by decide +kernel
theorem kx_276_84 : x_code k_P 276 84 = some (.iconst 0, 1) := by decide +kernel
theorem kx_276_85 : x_code k_P 276 85 = some (.ireturn, 1) := by decide +kernel
theorem kx_276_56 : x_code k_P 276 56 = some (.aload_n 0, 1) := by decide +kernel
theorem kx_276_57 : x_code k_P 276 57 = some (.getfield 7, 3) := by decide +kernel
theorem kx_276_60 : x_code k_P 276 60 = some (.iload 4, 2) := by decide +kernel
theorem kx_276_62 : x_code k_P 276 62 = some (.iconst 1, 1) := by decide +kernel
theorem kx_276_63 : x_code k_P 276 63 = some (.iadd, 1) := by decide +kernel
theorem kx_276_64 : x_code k_P 276 64 = some (.iaload, 1) := by decide +kernel
theorem kx_276_65 : x_code k_P 276 65 = some (.iconst 1, 1) := by decide +kernel
theorem kx_276_66 : x_code k_P 276 66 = some (.if_icmp .gt 18, 3) := by decide +kernel
theorem kx_276_69 : x_code k_P 276 69 = some (.aload_n 0, 1) := by decide +kernel
theorem kx_276_70 : x_code k_P 276 70 = some (.iload_n 3, 1) := by decide +kernel
theorem kx_276_71 : x_code k_P 276 71 = some (.aload_n 0, 1) := by decide +kernel
theorem kx_276_72 : x_code k_P 276 72 = some (.getfield 7, 3) := by decide +kernel
theorem kx_276_75 : x_code k_P 276 75 = some (.iload 4, 2) := by decide +kernel
theorem kx_276_77 : x_code k_P 276 77 = some (.iaload, 1) := by decide +kernel
theorem kx_276_78 : x_code k_P 276 78 = some (.invokevirtual 511, 3) := by decide +kernel
theorem kp_276_511 : x_pool k_P 276 511 = (2, 245, 2) := by decide +kernel
theorem kx_276_81 : x_code k_P 276 81 = some (.ifCond .ne 5, 3) := by decide +kernel
theorem kx_276_86 : x_code k_P 276 86 = some (.aload_n 0, 1) := by decide +kernel
theorem kx_276_87 : x_code k_P 276 87 = some (.getfield 7, 3) := by decide +kernel
theorem kx_276_90 : x_code k_P 276 90 = some (.iload 4, 2) := by decide +kernel
theorem kx_276_92 : x_code k_P 276 92 = some (.iaload, 1) := by decide +kernel
theorem kx_276_93 : x_code k_P 276 93 = some (.istore_n 3, 1) := by decide +kernel
theorem kx_276_94 : x_code k_P 276 94 = some (.iinc 4 2, 3) := by decide +kernel
theorem kx_276_97 : x_code k_P 276 97 = some (.goto (-61), 3) := by decide +kernel
theorem m_276 {xs : Nat → Int} {Ln d : Nat} {T : List cK} {M : cM} (hT : TT T) (hI : Rng M) {p n : Int} (p0 : 0 ≤ n ∧ n ≤ 1600) : cC k_P xs Ln (d + 1) 276 [rf 63, (0, p), (0, n)] (T, M) (qF T M 0 (fun v => (v = 1 ∧ 0 ≤ p ∧ p ≤ 7 ∧ 2 ≤ n ∧ n ≤ 24 ∧ n % 2 = 0 ∧ ∀ q : Int, 0 ≤ q → 2 * q < n → 0 ≤ M 64 (2 * q).toNat ∧ M 64 (2 * q).toNat ≤ 7) ∨ v = 0)) := by
  show cP k_P xs Ln (d + 1) 276 0 [(0, rf 63), (1, (0, p)), (2, (0, n))] [] (T, M) _
  refine s_aload_n kx_276_0 rfl ?_
  refine s_iload_n kx_276_1 rfl ?_
  refine s_callV2 (k := 63) (s1 := 2) (s2 := 0) (as := [(0, p)]) (rest := []) kx_276_2 kp_276_514 (Or.inl rfl) rfl (tk_63 hT) ki_221 kcl_221 rfl rfl (by decide) (m_221 (d := d) (p := p) hT hI) (kF (fun v1 v1p => ?_))
  refine s_if_eq (t := 24) kx_276_5 (by decide) (fun hc2 => ?_) (fun hc2 => ?_)
  · replace v1p := v1p.resolve_left (by omega)
    refine s_iconst (v := 0) kx_276_24 (by decide) ?_
    exact s_iret kx_276_25 (Or.inr ⟨kq_276, by omega⟩) ⟨_, rfl, rfl, (Or.inr rfl)⟩
  · replace v1p := v1p.resolve_right (by omega)
    refine s_iload_n kx_276_8 rfl ?_
    refine s_if_eq (t := 24) kx_276_9 (by decide) (fun hc3 => ?_) (fun hc3 => ?_)
    · refine s_iconst (v := 0) kx_276_24 (by decide) ?_
      exact s_iret kx_276_25 (Or.inr ⟨kq_276, by omega⟩) ⟨_, rfl, rfl, (Or.inr rfl)⟩
    · refine s_iload_n kx_276_12 rfl ?_
      refine s_iconst (v := 2) kx_276_13 (by decide) ?_
      refine r_irem kx_276_14 (by omega) (by omega) (by omega) (by omega) ?_
      refine s_if_gt (t := 24) kx_276_15 (by decide) (fun hc4 => ?_) (fun hc4 => ?_)
      · refine s_iconst (v := 0) kx_276_24 (by decide) ?_
        exact s_iret kx_276_25 (Or.inr ⟨kq_276, by omega⟩) ⟨_, rfl, rfl, (Or.inr rfl)⟩
      · refine s_iload_n kx_276_18 rfl ?_
        refine s_bipush (v := 24) kx_276_19 (by decide) ?_
        refine s_icmp_le (t := 26) kx_276_21 (by decide) (fun hc5 => ?_) (fun hc5 => ?_)
        · refine s_aload_n kx_276_26 rfl ?_
          refine r_getR (k := 63) (f := 48) (k2 := 92) kx_276_27 kp_276_159 (tk_63 hT) kf_12_48 (by decide) (rq_63_48 hI) ?_
          refine s_iload_n kx_276_30 rfl ?_
          refine r_ald (k := 92) kx_276_31 (tk_92 hT) ⟨by omega, by omega⟩ (rg_92 hI (by omega)) (fun v6 v6e v6a v6b => ?_)
          refine s_istore_n kx_276_32 km_276_3 rfl ?_
          refine s_iconst (v := 0) kx_276_33 (by decide) ?_
          refine s_istore kx_276_34 km_276_4 rfl ?_
          have key9 : ∀ n10 : Nat, ∀ (x3_7 x4_8 : Int), (0 ≤ x3_7) → (x3_7 ≤ 7) → (0 ≤ x4_8) → (x4_8 ≤ 24) → (x4_8 % 2 = 0) → (∀ q : Int, 0 ≤ q → 2 * q < x4_8 → 0 ≤ M 64 (2 * q).toNat ∧ M 64 (2 * q).toNat ≤ 7) → (2147483647 - x4_8).toNat < n10 → cP k_P xs Ln (d + 1) 276 36 [(0, rf 63), (2, (0, n)), (3, (0, x3_7)), (4, (0, x4_8))] [] (T, M) (qF T M 0 (fun v => (v = 1 ∧ 0 ≤ p ∧ p ≤ 7 ∧ 2 ≤ n ∧ n ≤ 24 ∧ n % 2 = 0 ∧ ∀ q : Int, 0 ≤ q → 2 * q < n → 0 ≤ M 64 (2 * q).toNat ∧ M 64 (2 * q).toNat ≤ 7) ∨ v = 0)) := by
            intro n10
            induction n10 with
            | zero => intro x3_7 x4_8 i11 i12 i13 i14 i15 i16 hm17; exact absurd hm17 (Nat.not_lt_zero _)
            | succ n10 ih18 =>
              intro x3_7 x4_8 i11 i12 i13 i14 i15 i16 hm17
              refine s_iload kx_276_36 rfl ?_
              refine s_iload_n kx_276_38 rfl ?_
              refine s_icmp_ge (t := 100) kx_276_39 (by decide) (fun hc19 => ?_) (fun hc19 => ?_)
              · refine s_iconst (v := 1) kx_276_100 (by decide) ?_
                exact s_iret kx_276_101 (Or.inr ⟨kq_276, by omega⟩) ⟨_, rfl, rfl, (Or.inl ⟨rfl, by omega, by omega, by omega, by omega, by omega, fun q a b => i16 q a (by omega)⟩)⟩
              · refine s_aload_n kx_276_42 rfl ?_
                refine s_aload_n kx_276_43 rfl ?_
                refine r_getR (k := 63) (f := 0) (k2 := 64) kx_276_44 kp_276_7 (tk_63 hT) kf_12_0 (by decide) (rq_63_0 hI) ?_
                refine s_iload kx_276_47 rfl ?_
                refine r_ald (k := 64) kx_276_49 (tk_64 hT) ⟨by omega, by omega⟩ (rg_64 hI) (fun v20 v20e v20a v20b => ?_)
                refine s_callV2 (k := 63) (s1 := 2) (s2 := 0) (as := [(0, v20)]) (rest := []) kx_276_50 kp_276_508 (Or.inl rfl) rfl (tk_63 hT) ki_220 kcl_220 rfl rfl (by decide) (m_220 (d := d) (r := v20) hT hI) (kF (fun v21 v21p => ?_))
                refine s_if_eq (t := 84) kx_276_53 (by decide) (fun hc22 => ?_) (fun hc22 => ?_)
                · replace v21p := v21p.resolve_left (by omega)
                  refine s_iconst (v := 0) kx_276_84 (by decide) ?_
                  exact s_iret kx_276_85 (Or.inr ⟨kq_276, by omega⟩) ⟨_, rfl, rfl, (Or.inr rfl)⟩
                · replace v21p := v21p.resolve_right (by omega)
                  refine s_aload_n kx_276_56 rfl ?_
                  refine r_getR (k := 63) (f := 0) (k2 := 64) kx_276_57 kp_276_7 (tk_63 hT) kf_12_0 (by decide) (rq_63_0 hI) ?_
                  refine s_iload kx_276_60 rfl ?_
                  refine s_iconst (v := 1) kx_276_62 (by decide) ?_
                  refine r_add kx_276_63 ⟨by omega, by omega⟩ ?_
                  refine r_ald (k := 64) kx_276_64 (tk_64 hT) ⟨by omega, by omega⟩ (rg_64 hI) (fun v23 v23e v23a v23b => ?_)
                  refine s_iconst (v := 1) kx_276_65 (by decide) ?_
                  refine s_icmp_gt (t := 84) kx_276_66 (by decide) (fun hc24 => ?_) (fun hc24 => ?_)
                  · refine s_iconst (v := 0) kx_276_84 (by decide) ?_
                    exact s_iret kx_276_85 (Or.inr ⟨kq_276, by omega⟩) ⟨_, rfl, rfl, (Or.inr rfl)⟩
                  · refine s_aload_n kx_276_69 rfl ?_
                    refine s_iload_n kx_276_70 rfl ?_
                    refine s_aload_n kx_276_71 rfl ?_
                    refine r_getR (k := 63) (f := 0) (k2 := 64) kx_276_72 kp_276_7 (tk_63 hT) kf_12_0 (by decide) (rq_63_0 hI) ?_
                    refine s_iload kx_276_75 rfl ?_
                    refine r_aldK (k := 64) kx_276_77 (tk_64 hT) ⟨by omega, by omega⟩ v20e ?_
                    refine s_callV2 (k := 63) (s1 := 3) (s2 := 0) (as := [(0, v20), (0, x3_7)]) (rest := []) kx_276_78 kp_276_511 (Or.inl rfl) rfl (tk_63 hT) ki_245 kcl_245 rfl rfl (by decide) (m_245 (d := d) (a := x3_7) (b := v20) hT hI (by omega) (by omega)) (kF (fun v25 v25p => ?_))
                    refine s_if_ne (t := 86) kx_276_81 (by decide) (fun hc26 => ?_) (fun hc26 => ?_)
                    · refine s_aload_n kx_276_86 rfl ?_
                      refine r_getR (k := 63) (f := 0) (k2 := 64) kx_276_87 kp_276_7 (tk_63 hT) kf_12_0 (by decide) (rq_63_0 hI) ?_
                      refine s_iload kx_276_90 rfl ?_
                      refine r_aldK (k := 64) kx_276_92 (tk_64 hT) ⟨by omega, by omega⟩ v20e ?_
                      refine s_istore_n kx_276_93 km_276_3 rfl ?_
                      refine r_iinc kx_276_94 rfl km_276_4 (by decide) ⟨by omega, by omega⟩ rfl ?_
                      refine s_goto (t := 36) kx_276_97 (by decide) ?_
                      exact cP.wk (lS1 rfl (lS1 rfl (lS1 rfl (lS1 rfl lS0)))) (ih18 v20 (x4_8 + 2) (by omega) (by omega) (by omega) (by omega) (by omega) (fun q a b => if e : 2 * q = x4_8 then (by rw [e]; omega) else i16 q a (by omega)) (by omega))
                    · refine s_iconst (v := 0) kx_276_84 (by decide) ?_
                      exact s_iret kx_276_85 (Or.inr ⟨kq_276, by omega⟩) ⟨_, rfl, rfl, (Or.inr rfl)⟩
          exact cP.wk (lS1 rfl (lS1 rfl (lS1 rfl (lS1 rfl lS0)))) (key9 _ v6 0 (by omega) (by omega) (by omega) (by omega) (by omega) (fun q a b => absurd b (by omega)) (Nat.lt_succ_self _))
        · refine s_iconst (v := 0) kx_276_24 (by decide) ?_
          exact s_iret kx_276_25 (Or.inr ⟨kq_276, by omega⟩) ⟨_, rfl, rfl, (Or.inr rfl)⟩
theorem kx_275_0 : x_code k_P 275 0 = some (.aload_n 0, 1) := by decide +kernel
theorem kx_275_1 : x_code k_P 275 1 = some (.getfield 159, 3) := by decide +kernel
theorem kp_275_159 : x_pool k_P 275 159 = (1, 12, 48) := by decide +kernel
theorem kx_275_4 : x_code k_P 275 4 = some (.iload_n 1, 1) := by decide +kernel
theorem kx_275_5 : x_code k_P 275 5 = some (.iaload, 1) := by decide +kernel
theorem kx_275_6 : x_code k_P 275 6 = some (.istore 4, 2) := by decide +kernel
theorem km_275_4 : 4 < x_maxL k_P 275 := by decide +kernel
theorem kx_275_8 : x_code k_P 275 8 = some (.aload_n 0, 1) := by decide +kernel
theorem kx_275_9 : x_code k_P 275 9 = some (.getfield 162, 3) := by decide +kernel
theorem kp_275_162 : x_pool k_P 275 162 = (1, 12, 49) := by decide +kernel
theorem kx_275_12 : x_code k_P 275 12 = some (.iload_n 1, 1) := by decide +kernel
theorem kx_275_13 : x_code k_P 275 13 = some (.iaload, 1) := by decide +kernel
theorem kx_275_14 : x_code k_P 275 14 = some (.istore 5, 2) := by decide +kernel
theorem km_275_5 : 5 < x_maxL k_P 275 := by decide +kernel
theorem kx_275_16 : x_code k_P 275 16 = some (.iconst 0, 1) := by decide +kernel
theorem kx_275_17 : x_code k_P 275 17 = some (.istore 6, 2) := by decide +kernel
theorem km_275_6 : 6 < x_maxL k_P 275 := by decide +kernel
theorem kx_275_19 : x_code k_P 275 19 = some (.iconst 0, 1) := by decide +kernel
theorem kx_275_20 : x_code k_P 275 20 = some (.istore 7, 2) := by decide +kernel
theorem km_275_7 : 7 < x_maxL k_P 275 := by decide +kernel
theorem kx_275_22 : x_code k_P 275 22 = some (.iload 7, 2) := by decide +kernel
theorem kx_275_24 : x_code k_P 275 24 = some (.iload_n 2, 1) := by decide +kernel
theorem kx_275_25 : x_code k_P 275 25 = some (.if_icmp .ge 188, 3) := by decide +kernel
theorem kx_275_213 : x_code k_P 275 213 = some (.iload 6, 2) := by decide +kernel
theorem kx_275_215 : x_code k_P 275 215 = some (.ireturn, 1) := by decide +kernel
theorem kq_275 : x_retk k_P 275 = 1 := by decide +kernel
theorem kx_275_28 : x_code k_P 275 28 = some (.aload_n 0, 1) := by decide +kernel
theorem kx_275_29 : x_code k_P 275 29 = some (.getfield 7, 3) := by decide +kernel
theorem kp_275_7 : x_pool k_P 275 7 = (1, 12, 0) := by decide +kernel
theorem kx_275_32 : x_code k_P 275 32 = some (.iconst 2, 1) := by decide +kernel
theorem kx_275_33 : x_code k_P 275 33 = some (.iload 7, 2) := by decide +kernel
theorem kx_275_35 : x_code k_P 275 35 = some (.imul, 1) := by decide +kernel
theorem kx_275_36 : x_code k_P 275 36 = some (.iaload, 1) := by decide +kernel
theorem kx_275_37 : x_code k_P 275 37 = some (.istore 8, 2) := by decide +kernel
theorem km_275_8 : 8 < x_maxL k_P 275 := by decide +kernel
theorem kx_275_39 : x_code k_P 275 39 = some (.iload_n 3, 1) := by decide +kernel
theorem kx_275_40 : x_code k_P 275 40 = some (.iload_n 2, 1) := by decide +kernel
theorem kx_275_41 : x_code k_P 275 41 = some (.iconst 1, 1) := by decide +kernel
theorem kx_275_42 : x_code k_P 275 42 = some (.isub, 1) := by decide +kernel
theorem kx_275_43 : x_code k_P 275 43 = some (.iload 7, 2) := by decide +kernel
theorem kx_275_45 : x_code k_P 275 45 = some (.isub, 1) := by decide +kernel
theorem kx_275_46 : x_code k_P 275 46 = some (.invokestatic 585, 3) := by decide +kernel
theorem kp_275_585 : x_pool k_P 275 585 = (6, 222, 2) := by decide +kernel
theorem kcl_222 : x_maxL k_P 222 ≤ 60 ∧ 2 ≤ x_maxL k_P 222 := by decide +kernel
theorem kx_275_49 : x_code k_P 275 49 = some (.istore 9, 2) := by decide +kernel
theorem km_275_9 : 9 < x_maxL k_P 275 := by decide +kernel
theorem kx_275_51 : x_code k_P 275 51 = some (.iload 9, 2) := by decide +kernel
theorem kx_275_53 : x_code k_P 275 53 = some (.ifCond .eq 32, 3) := by decide +kernel
theorem kx_275_85 : x_code k_P 275 85 = some (.iload 6, 2) := by decide +kernel
theorem kx_275_87 : x_code k_P 275 87 = some (.iload 9, 2) := by decide +kernel
theorem kx_275_89 : x_code k_P 275 89 = some (.ifCond .eq 20, 3) := by decide +kernel
theorem kx_275_109 : x_code k_P 275 109 = some (.aload_n 0, 1) := by decide +kernel
theorem kx_275_110 : x_code k_P 275 110 = some (.iload 4, 2) := by decide +kernel
theorem kx_275_112 : x_code k_P 275 112 = some (.iload 8, 2) := by decide +kernel
theorem kx_275_114 : x_code k_P 275 114 = some (.invokevirtual 511, 3) := by decide +kernel
theorem kp_275_511 : x_pool k_P 275 511 = (2, 245, 2) := by decide +kernel
theorem kx_275_117 : x_code k_P 275 117 = some (.iadd, 1) := by decide +kernel
theorem kx_275_118 : x_code k_P 275 118 = some (.istore 6, 2) := by decide +kernel
theorem kx_275_120 : x_code k_P 275 120 = some (.iload 9, 2) := by decide +kernel
theorem kx_275_122 : x_code k_P 275 122 = some (.ifCond .eq 8, 3) := by decide +kernel
theorem kx_275_130 : x_code k_P 275 130 = some (.iload 5, 2) := by decide +kernel
theorem kx_275_132 : x_code k_P 275 132 = some (.istore 5, 2) := by decide +kernel
theorem kx_275_134 : x_code k_P 275 134 = some (.iload 8, 2) := by decide +kernel
theorem kx_275_136 : x_code k_P 275 136 = some (.istore 4, 2) := by decide +kernel
theorem kx_275_138 : x_code k_P 275 138 = some (.iload 5, 2) := by decide +kernel
theorem kx_275_140 : x_code k_P 275 140 = some (.iload 4, 2) := by decide +kernel
theorem kx_275_142 : x_code k_P 275 142 = some (.if_icmp .ne 40, 3) := by decide +kernel
theorem kx_275_182 : x_code k_P 275 182 = some (.iconst 0, 1) := by decide +kernel
theorem kx_275_183 : x_code k_P 275 183 = some (.istore 10, 2) := by decide +kernel
theorem km_275_10 : 10 < x_maxL k_P 275 := by decide +kernel
theorem kx_275_185 : x_code k_P 275 185 = some (.aload_n 0, 1) := by decide +kernel
theorem kx_275_186 : x_code k_P 275 186 = some (.getfield 7, 3) := by decide +kernel
theorem kx_275_189 : x_code k_P 275 189 = some (.iconst 2, 1) := by decide +kernel
theorem kx_275_190 : x_code k_P 275 190 = some (.iload 7, 2) := by decide +kernel
theorem kx_275_192 : x_code k_P 275 192 = some (.imul, 1) := by decide +kernel
theorem kx_275_193 : x_code k_P 275 193 = some (.iconst 1, 1) := by decide +kernel
theorem kx_275_194 : x_code k_P 275 194 = some (.iadd, 1) := by decide +kernel
theorem kx_275_195 : x_code k_P 275 195 = some (.iaload, 1) := by decide +kernel
theorem kx_275_196 : x_code k_P 275 196 = some (.iconst 1, 1) := by decide +kernel
theorem kx_275_197 : x_code k_P 275 197 = some (.if_icmp .ne 10, 3) := by decide +kernel
theorem kx_275_207 : x_code k_P 275 207 = some (.iinc 7 1, 3) := by decide +kernel
theorem kx_275_210 : x_code k_P 275 210 = some (.goto (-188), 3) := by decide +kernel
theorem kx_275_200 : x_code k_P 275 200 = some (.iload 10, 2) := by decide +kernel
theorem kx_275_202 : x_code k_P 275 202 = some (.ifCond .ne 5, 3) := by decide +kernel
theorem kx_275_205 : x_code k_P 275 205 = some (.iconst (-1), 1) := by decide +kernel
theorem kx_275_206 : x_code k_P 275 206 = some (.ireturn, 1) := by decide +kernel
theorem kx_275_145 : x_code k_P 275 145 = some (.aload_n 0, 1) := by decide +kernel
theorem kx_275_146 : x_code k_P 275 146 = some (.getfield 165, 3) := by decide +kernel
theorem kp_275_165 : x_pool k_P 275 165 = (1, 12, 50) := by decide +kernel
theorem kx_275_149 : x_code k_P 275 149 = some (.iload_n 1, 1) := by decide +kernel
theorem kx_275_150 : x_code k_P 275 150 = some (.iaload, 1) := by decide +kernel
theorem kx_275_151 : x_code k_P 275 151 = some (.ifCond .ne 31, 3) := by decide +kernel
theorem kx_275_154 : x_code k_P 275 154 = some (.aload_n 0, 1) := by decide +kernel
theorem kx_275_155 : x_code k_P 275 155 = some (.iload_n 1, 1) := by decide +kernel
theorem kx_275_156 : x_code k_P 275 156 = some (.invokevirtual 487, 3) := by decide +kernel
theorem kp_275_487 : x_pool k_P 275 487 = (2, 238, 1) := by decide +kernel
theorem kx_275_159 : x_code k_P 275 159 = some (.iconst (-1), 1) := by decide +kernel
theorem kx_275_160 : x_code k_P 275 160 = some (.if_icmp .eq 18, 3) := by decide +kernel
theorem kx_275_178 : x_code k_P 275 178 = some (.iconst 1, 1) := by decide +kernel
theorem kx_275_179 : x_code k_P 275 179 = some (.goto 4, 3) := by decide +kernel
theorem kx_275_163 : x_code k_P 275 163 = some (.aload_n 0, 1) := by decide +kernel
theorem kx_275_164 : x_code k_P 275 164 = some (.getfield 162, 3) := by decide +kernel
theorem kx_275_167 : x_code k_P 275 167 = some (.aload_n 0, 1) := by decide +kernel
theorem kx_275_168 : x_code k_P 275 168 = some (.iload_n 1, 1) := by decide +kernel
theorem kx_275_169 : x_code k_P 275 169 = some (.invokevirtual 487, 3) := by decide +kernel
theorem kx_275_172 : x_code k_P 275 172 = some (.iaload, 1) := by decide +kernel
theorem kx_275_173 : x_code k_P 275 173 = some (.iload 4, 2) := by decide +kernel
theorem kx_275_175 : x_code k_P 275 175 = some (.if_icmp .ne 7, 3) := by decide +kernel
theorem kx_275_56 : x_code k_P 275 56 = some (.iload 5, 2) := by decide +kernel
theorem kx_275_58 : x_code k_P 275 58 = some (.iload 4, 2) := by decide +kernel
theorem kx_275_60 : x_code k_P 275 60 = some (.if_icmp .ne 23, 3) := by decide +kernel
theorem kx_275_83 : x_code k_P 275 83 = some (.iconst (-1), 1) := by decide +kernel
theorem kx_275_84 : x_code k_P 275 84 = some (.ireturn, 1) := by decide +kernel
theorem kx_275_63 : x_code k_P 275 63 = some (.aload_n 0, 1) := by decide +kernel
theorem kx_275_64 : x_code k_P 275 64 = some (.getfield 165, 3) := by decide +kernel
theorem kx_275_67 : x_code k_P 275 67 = some (.iload_n 1, 1) := by decide +kernel
theorem kx_275_68 : x_code k_P 275 68 = some (.iaload, 1) := by decide +kernel
theorem kx_275_69 : x_code k_P 275 69 = some (.iconst 1, 1) := by decide +kernel
theorem kx_275_70 : x_code k_P 275 70 = some (.if_icmp .eq 13, 3) := by decide +kernel
theorem kx_275_73 : x_code k_P 275 73 = some (.aload_n 0, 1) := by decide +kernel
theorem kx_275_74 : x_code k_P 275 74 = some (.iload_n 1, 1) := by decide +kernel
theorem kx_275_75 : x_code k_P 275 75 = some (.iload 8, 2) := by decide +kernel
theorem kx_275_77 : x_code k_P 275 77 = some (.invokevirtual 517, 3) := by decide +kernel
theorem kp_275_517 : x_pool k_P 275 517 = (2, 242, 2) := by decide +kernel
theorem kx_275_80 : x_code k_P 275 80 = some (.ifCond .ne 5, 3) := by decide +kernel
theorem kx_275_92 : x_code k_P 275 92 = some (.aload_n 0, 1) := by decide +kernel
theorem kx_275_93 : x_code k_P 275 93 = some (.iload_n 1, 1) := by decide +kernel
theorem kx_275_94 : x_code k_P 275 94 = some (.iload_n 1, 1) := by decide +kernel
theorem kx_275_95 : x_code k_P 275 95 = some (.aload_n 0, 1) := by decide +kernel
theorem kx_275_96 : x_code k_P 275 96 = some (.iload 4, 2) := by decide +kernel
theorem kx_275_98 : x_code k_P 275 98 = some (.iload 8, 2) := by decide +kernel
theorem kx_275_100 : x_code k_P 275 100 = some (.invokevirtual 511, 3) := by decide +kernel
theorem kx_275_103 : x_code k_P 275 103 = some (.invokevirtual 523, 3) := by decide +kernel
theorem kp_275_523 : x_pool k_P 275 523 = (2, 235, 3) := by decide +kernel
theorem kx_275_106 : x_code k_P 275 106 = some (.goto 11, 3) := by decide +kernel
theorem kx_275_125 : x_code k_P 275 125 = some (.iload 8, 2) := by decide +kernel
theorem kx_275_127 : x_code k_P 275 127 = some (.goto 5, 3) := by decide +kernel
def fS_275_l22 : List (Nat × Nat) := [(102, 99999), (63, 62), (63, 63), (63, 64)]
def fS_275_m : List (Nat × Nat) := [(102, 99999), (63, 62), (63, 63), (63, 64)]
theorem m_275 {xs : Nat → Int} {Ln d : Nat} {T : List cK} {M : cM} (hT : TT T) (hI : Rng M) {p many way : Int} (hS : Sg M) (p0 : 0 ≤ p ∧ p ≤ 7) (p1 : 0 ≤ many ∧ many ≤ 12) (p2 : ∀ q : Int, 0 ≤ q → q < many → 0 ≤ M 64 (2 * q).toNat ∧ M 64 (2 * q).toNat ≤ 7) : cC k_P xs Ln (d + 4) 275 [rf 63, (0, p), (0, many), (0, way)] (T, M) (qW T M fS_275_m 0 (fun v M1 => True)) := by
  show cP k_P xs Ln (d + 4) 275 0 [(0, rf 63), (1, (0, p)), (2, (0, many)), (3, (0, way))] [] (T, M) _
  have hFm : Fr fS_275_m M M := Fr.refl
  refine s_aload_n kx_275_0 rfl ?_
  refine r_getR (k := 63) (f := 48) (k2 := 92) kx_275_1 kp_275_159 (tk_63 hT) kf_12_48 (by decide) (rq_63_48 hI) ?_
  refine s_iload_n kx_275_4 rfl ?_
  refine r_ald (k := 92) kx_275_5 (tk_92 hT) ⟨by omega, by omega⟩ (rg_92 hI (by omega)) (fun v1 v1e v1a v1b => ?_)
  refine s_istore kx_275_6 km_275_4 rfl ?_
  refine s_aload_n kx_275_8 rfl ?_
  refine r_getR (k := 63) (f := 49) (k2 := 93) kx_275_9 kp_275_162 (tk_63 hT) kf_12_49 (by decide) (rq_63_49 hI) ?_
  refine s_iload_n kx_275_12 rfl ?_
  refine r_ald (k := 93) kx_275_13 (tk_93 hT) ⟨by omega, by omega⟩ (rg_93 hI (by omega)) (fun v2 v2e v2a v2b => ?_)
  refine s_istore kx_275_14 km_275_5 rfl ?_
  refine s_iconst (v := 0) kx_275_16 (by decide) ?_
  refine s_istore kx_275_17 km_275_6 rfl ?_
  refine s_iconst (v := 0) kx_275_19 (by decide) ?_
  refine s_istore kx_275_20 km_275_7 rfl ?_
  have key8 : ∀ n9 : Nat, ∀ (x4_3 x5_4 x6_5 x7_6 : Int), ∀ M7 : cM, Rng M7 → Fr fS_275_m M M7 → Fr fS_275_l22 M M7 → (0 ≤ x4_3) → (x4_3 ≤ 7) → (0 ≤ x7_6) → (2147483647 - x7_6).toNat < n9 → cP k_P xs Ln (d + 4) 275 22 [(0, rf 63), (1, (0, p)), (2, (0, many)), (3, (0, way)), (4, (0, x4_3)), (5, (0, x5_4)), (6, (0, x6_5)), (7, (0, x7_6))] [] (T, M7) (qW T M fS_275_m 0 (fun v M1 => True)) := by
    intro n9
    induction n9 with
    | zero => intro x4_3 x5_4 x6_5 x7_6 M7 hI7 hFm7 fl7 i10 i11 i12 hm13; exact absurd hm13 (Nat.not_lt_zero _)
    | succ n9 ih14 =>
      intro x4_3 x5_4 x6_5 x7_6 M7 hI7 hFm7 fl7 i10 i11 i12 hm13
      refine s_iload kx_275_22 rfl ?_
      refine s_iload_n kx_275_24 rfl ?_
      refine s_icmp_ge (t := 213) kx_275_25 (by decide) (fun hc15 => ?_) (fun hc15 => ?_)
      · refine s_iload kx_275_213 rfl ?_
        exact s_iret kx_275_215 (Or.inl kq_275) ⟨_, _, rfl, rfl, hI7, hFm7, trivial⟩
      · refine s_aload_n kx_275_28 rfl ?_
        refine r_getR (k := 63) (f := 0) (k2 := 64) kx_275_29 kp_275_7 (tk_63 hT) kf_12_0 (by decide) (rq_63_0 hI7) ?_
        refine s_iconst (v := 2) kx_275_32 (by decide) ?_
        refine s_iload kx_275_33 rfl ?_
        refine r_mul kx_275_35 ⟨by omega, by omega⟩ ?_
        have hb16 := p2 x7_6 (by omega) (by omega)
        have he17 : M7 64 (2 * x7_6).toNat = M 64 (2 * x7_6).toNat := (fl7 64 _ rfl)
        refine r_ald (k := 64) kx_275_36 (tk_64 hT) ⟨by omega, by omega⟩ (rg_64 hI7) (fun v18 v18e v18a v18b => ?_)
        refine s_istore kx_275_37 km_275_8 rfl ?_
        refine s_iload_n kx_275_39 rfl ?_
        refine s_iload_n kx_275_40 rfl ?_
        refine s_iconst (v := 1) kx_275_41 (by decide) ?_
        refine r_sub kx_275_42 ⟨by omega, by omega⟩ ?_
        refine s_iload kx_275_43 rfl ?_
        refine r_sub kx_275_45 ⟨by omega, by omega⟩ ?_
        refine s_callS2 (s1 := 2) (s2 := 0) (as := [(0, ((many - 1) - x7_6)), (0, way)]) (rest := []) kx_275_46 kp_275_585 rfl kcl_222 rfl rfl (by decide) (m_222 (d := d + 3) (set := way) (k := ((many - 1) - x7_6)) hT hI7) (kF (fun v19 v19p => ?_))
        refine s_istore kx_275_49 km_275_9 rfl ?_
        refine s_iload kx_275_51 rfl ?_
        refine s_if_eq (t := 85) kx_275_53 (by decide) (fun hc20 => ?_) (fun hc20 => ?_)
        · refine s_iload kx_275_85 rfl ?_
          refine s_iload kx_275_87 rfl ?_
          refine s_if_eq (t := 109) kx_275_89 (by decide) (fun hc21 => ?_) (fun hc21 => absurd hc21 (by omega))
          refine s_aload_n kx_275_109 rfl ?_
          refine s_iload kx_275_110 rfl ?_
          refine s_iload kx_275_112 rfl ?_
          refine s_callV2 (k := 63) (s1 := 3) (s2 := 1) (as := [(0, v18), (0, x4_3)]) (rest := [(0, x6_5)]) kx_275_114 kp_275_511 (Or.inl rfl) rfl (tk_63 hT) ki_245 kcl_245 rfl rfl (by decide) (m_245 (d := d + 3) (a := x4_3) (b := v18) hT hI7 (by omega) (by omega)) (kF (fun v22 v22p => ?_))
          refine r_iaddR kx_275_117 (fun v23 v23a v23b => ?_)
          refine s_istore kx_275_118 km_275_6 rfl ?_
          refine s_iload kx_275_120 rfl ?_
          refine s_if_eq (t := 130) kx_275_122 (by decide) (fun hc24 => ?_) (fun hc24 => absurd hc24 (by omega))
          refine s_iload kx_275_130 rfl ?_
          refine s_istore kx_275_132 km_275_5 rfl ?_
          refine s_iload kx_275_134 rfl ?_
          refine s_istore kx_275_136 km_275_4 rfl ?_
          refine s_iload kx_275_138 rfl ?_
          refine s_iload kx_275_140 rfl ?_
          refine s_icmp_ne (t := 182) kx_275_142 (by decide) (fun hc25 => ?_) (fun hc25 => ?_)
          · refine s_iconst (v := 0) kx_275_182 (by decide) ?_
            refine s_istore kx_275_183 km_275_10 rfl ?_
            refine s_aload_n kx_275_185 rfl ?_
            refine r_getR (k := 63) (f := 0) (k2 := 64) kx_275_186 kp_275_7 (tk_63 hT) kf_12_0 (by decide) (rq_63_0 hI7) ?_
            refine s_iconst (v := 2) kx_275_189 (by decide) ?_
            refine s_iload kx_275_190 rfl ?_
            refine r_mul kx_275_192 ⟨by omega, by omega⟩ ?_
            refine s_iconst (v := 1) kx_275_193 (by decide) ?_
            refine r_add kx_275_194 ⟨by omega, by omega⟩ ?_
            refine r_ald (k := 64) kx_275_195 (tk_64 hT) ⟨by omega, by omega⟩ (rg_64 hI7) (fun v26 v26e v26a v26b => ?_)
            refine s_iconst (v := 1) kx_275_196 (by decide) ?_
            refine s_icmp_ne (t := 207) kx_275_197 (by decide) (fun hc27 => ?_) (fun hc27 => ?_)
            · refine r_iinc kx_275_207 rfl km_275_7 (by decide) ⟨by omega, by omega⟩ rfl ?_
              refine s_goto (t := 22) kx_275_210 (by decide) ?_
              exact cP.wk (lS1 rfl (lS1 rfl (lS1 rfl (lS1 rfl (lS1 rfl (lS1 rfl (lS1 rfl (lS1 rfl lS0)))))))) (ih14 v18 x5_4 v23 (x7_6 + 1) M7 hI7 hFm7 fl7 (by omega) (by omega) (by omega) (by omega))
            · refine s_iload kx_275_200 rfl ?_
              refine s_if_ne (t := 207) kx_275_202 (by decide) (fun hc28 => absurd hc28 (by decide)) (fun hc28 => ?_)
              refine s_iconst (v := (-1)) kx_275_205 (by decide) ?_
              exact s_iret kx_275_206 (Or.inl kq_275) ⟨_, _, rfl, rfl, hI7, hFm7, trivial⟩
          · refine s_aload_n kx_275_145 rfl ?_
            refine r_getR (k := 63) (f := 50) (k2 := 94) kx_275_146 kp_275_165 (tk_63 hT) kf_12_50 (by decide) (rq_63_50 hI7) ?_
            refine s_iload_n kx_275_149 rfl ?_
            refine r_aldU (k := 94) kx_275_150 (tk_94 hT) ⟨by omega, by omega⟩ (fun v29 v29e => ?_)
            refine s_if_ne (t := 182) kx_275_151 (by decide) (fun hc30 => ?_) (fun hc30 => ?_)
            · refine s_iconst (v := 0) kx_275_182 (by decide) ?_
              refine s_istore kx_275_183 km_275_10 rfl ?_
              refine s_aload_n kx_275_185 rfl ?_
              refine r_getR (k := 63) (f := 0) (k2 := 64) kx_275_186 kp_275_7 (tk_63 hT) kf_12_0 (by decide) (rq_63_0 hI7) ?_
              refine s_iconst (v := 2) kx_275_189 (by decide) ?_
              refine s_iload kx_275_190 rfl ?_
              refine r_mul kx_275_192 ⟨by omega, by omega⟩ ?_
              refine s_iconst (v := 1) kx_275_193 (by decide) ?_
              refine r_add kx_275_194 ⟨by omega, by omega⟩ ?_
              refine r_ald (k := 64) kx_275_195 (tk_64 hT) ⟨by omega, by omega⟩ (rg_64 hI7) (fun v31 v31e v31a v31b => ?_)
              refine s_iconst (v := 1) kx_275_196 (by decide) ?_
              refine s_icmp_ne (t := 207) kx_275_197 (by decide) (fun hc32 => ?_) (fun hc32 => ?_)
              · refine r_iinc kx_275_207 rfl km_275_7 (by decide) ⟨by omega, by omega⟩ rfl ?_
                refine s_goto (t := 22) kx_275_210 (by decide) ?_
                exact cP.wk (lS1 rfl (lS1 rfl (lS1 rfl (lS1 rfl (lS1 rfl (lS1 rfl (lS1 rfl (lS1 rfl lS0)))))))) (ih14 v18 x5_4 v23 (x7_6 + 1) M7 hI7 hFm7 fl7 (by omega) (by omega) (by omega) (by omega))
              · refine s_iload kx_275_200 rfl ?_
                refine s_if_ne (t := 207) kx_275_202 (by decide) (fun hc33 => absurd hc33 (by decide)) (fun hc33 => ?_)
                refine s_iconst (v := (-1)) kx_275_205 (by decide) ?_
                exact s_iret kx_275_206 (Or.inl kq_275) ⟨_, _, rfl, rfl, hI7, hFm7, trivial⟩
            · refine s_aload_n kx_275_154 rfl ?_
              refine s_iload_n kx_275_155 rfl ?_
              refine s_callV2 (k := 63) (s1 := 2) (s2 := 0) (as := [(0, p)]) (rest := []) kx_275_156 kp_275_487 (Or.inl rfl) rfl (tk_63 hT) ki_238 kcl_238 rfl rfl (by decide) (m_238 (d := d + 3) (p := p) hT hI7 (by omega)) (kF (fun v34 v34p => ?_))
              refine s_iconst (v := (-1)) kx_275_159 (by decide) ?_
              refine s_icmp_eq (t := 178) kx_275_160 (by decide) (fun hc35 => ?_) (fun hc35 => ?_)
              · refine s_iconst (v := 1) kx_275_178 (by decide) ?_
                refine s_goto (t := 183) kx_275_179 (by decide) ?_
                refine s_istore kx_275_183 km_275_10 rfl ?_
                refine s_aload_n kx_275_185 rfl ?_
                refine r_getR (k := 63) (f := 0) (k2 := 64) kx_275_186 kp_275_7 (tk_63 hT) kf_12_0 (by decide) (rq_63_0 hI7) ?_
                refine s_iconst (v := 2) kx_275_189 (by decide) ?_
                refine s_iload kx_275_190 rfl ?_
                refine r_mul kx_275_192 ⟨by omega, by omega⟩ ?_
                refine s_iconst (v := 1) kx_275_193 (by decide) ?_
                refine r_add kx_275_194 ⟨by omega, by omega⟩ ?_
                refine r_ald (k := 64) kx_275_195 (tk_64 hT) ⟨by omega, by omega⟩ (rg_64 hI7) (fun v36 v36e v36a v36b => ?_)
                refine s_iconst (v := 1) kx_275_196 (by decide) ?_
                refine s_icmp_ne (t := 207) kx_275_197 (by decide) (fun hc37 => ?_) (fun hc37 => ?_)
                · refine r_iinc kx_275_207 rfl km_275_7 (by decide) ⟨by omega, by omega⟩ rfl ?_
                  refine s_goto (t := 22) kx_275_210 (by decide) ?_
                  exact cP.wk (lS1 rfl (lS1 rfl (lS1 rfl (lS1 rfl (lS1 rfl (lS1 rfl (lS1 rfl (lS1 rfl lS0)))))))) (ih14 v18 x5_4 v23 (x7_6 + 1) M7 hI7 hFm7 fl7 (by omega) (by omega) (by omega) (by omega))
                · refine s_iload kx_275_200 rfl ?_
                  refine s_if_ne (t := 207) kx_275_202 (by decide) (fun hc38 => ?_) (fun hc38 => absurd hc38 (by decide))
                  refine r_iinc kx_275_207 rfl km_275_7 (by decide) ⟨by omega, by omega⟩ rfl ?_
                  refine s_goto (t := 22) kx_275_210 (by decide) ?_
                  exact cP.wk (lS1 rfl (lS1 rfl (lS1 rfl (lS1 rfl (lS1 rfl (lS1 rfl (lS1 rfl (lS1 rfl lS0)))))))) (ih14 v18 x5_4 v23 (x7_6 + 1) M7 hI7 hFm7 fl7 (by omega) (by omega) (by omega) (by omega))
              · refine s_aload_n kx_275_163 rfl ?_
                refine r_getR (k := 63) (f := 49) (k2 := 93) kx_275_164 kp_275_162 (tk_63 hT) kf_12_49 (by decide) (rq_63_49 hI7) ?_
                refine s_aload_n kx_275_167 rfl ?_
                refine s_iload_n kx_275_168 rfl ?_
                refine s_callV2 (k := 63) (s1 := 2) (s2 := 1) (as := [(0, p)]) (rest := [rf 93]) kx_275_169 kp_275_487 (Or.inl rfl) rfl (tk_63 hT) ki_238 kcl_238 rfl rfl (by decide) (m_238 (d := d + 3) (p := p) hT hI7 (by omega)) (kF (fun v39 v39p => ?_))
                refine r_ald (k := 93) kx_275_172 (tk_93 hT) ⟨by omega, by omega⟩ (rg_93 hI7 (by omega)) (fun v40 v40e v40a v40b => ?_)
                refine s_iload kx_275_173 rfl ?_
                refine s_icmp_ne (t := 182) kx_275_175 (by decide) (fun hc41 => ?_) (fun hc41 => ?_)
                · refine s_iconst (v := 0) kx_275_182 (by decide) ?_
                  refine s_istore kx_275_183 km_275_10 rfl ?_
                  refine s_aload_n kx_275_185 rfl ?_
                  refine r_getR (k := 63) (f := 0) (k2 := 64) kx_275_186 kp_275_7 (tk_63 hT) kf_12_0 (by decide) (rq_63_0 hI7) ?_
                  refine s_iconst (v := 2) kx_275_189 (by decide) ?_
                  refine s_iload kx_275_190 rfl ?_
                  refine r_mul kx_275_192 ⟨by omega, by omega⟩ ?_
                  refine s_iconst (v := 1) kx_275_193 (by decide) ?_
                  refine r_add kx_275_194 ⟨by omega, by omega⟩ ?_
                  refine r_ald (k := 64) kx_275_195 (tk_64 hT) ⟨by omega, by omega⟩ (rg_64 hI7) (fun v42 v42e v42a v42b => ?_)
                  refine s_iconst (v := 1) kx_275_196 (by decide) ?_
                  refine s_icmp_ne (t := 207) kx_275_197 (by decide) (fun hc43 => ?_) (fun hc43 => ?_)
                  · refine r_iinc kx_275_207 rfl km_275_7 (by decide) ⟨by omega, by omega⟩ rfl ?_
                    refine s_goto (t := 22) kx_275_210 (by decide) ?_
                    exact cP.wk (lS1 rfl (lS1 rfl (lS1 rfl (lS1 rfl (lS1 rfl (lS1 rfl (lS1 rfl (lS1 rfl lS0)))))))) (ih14 v18 x5_4 v23 (x7_6 + 1) M7 hI7 hFm7 fl7 (by omega) (by omega) (by omega) (by omega))
                  · refine s_iload kx_275_200 rfl ?_
                    refine s_if_ne (t := 207) kx_275_202 (by decide) (fun hc44 => absurd hc44 (by decide)) (fun hc44 => ?_)
                    refine s_iconst (v := (-1)) kx_275_205 (by decide) ?_
                    exact s_iret kx_275_206 (Or.inl kq_275) ⟨_, _, rfl, rfl, hI7, hFm7, trivial⟩
                · refine s_iconst (v := 1) kx_275_178 (by decide) ?_
                  refine s_goto (t := 183) kx_275_179 (by decide) ?_
                  refine s_istore kx_275_183 km_275_10 rfl ?_
                  refine s_aload_n kx_275_185 rfl ?_
                  refine r_getR (k := 63) (f := 0) (k2 := 64) kx_275_186 kp_275_7 (tk_63 hT) kf_12_0 (by decide) (rq_63_0 hI7) ?_
                  refine s_iconst (v := 2) kx_275_189 (by decide) ?_
                  refine s_iload kx_275_190 rfl ?_
                  refine r_mul kx_275_192 ⟨by omega, by omega⟩ ?_
                  refine s_iconst (v := 1) kx_275_193 (by decide) ?_
                  refine r_add kx_275_194 ⟨by omega, by omega⟩ ?_
                  refine r_ald (k := 64) kx_275_195 (tk_64 hT) ⟨by omega, by omega⟩ (rg_64 hI7) (fun v45 v45e v45a v45b => ?_)
                  refine s_iconst (v := 1) kx_275_196 (by decide) ?_
                  refine s_icmp_ne (t := 207) kx_275_197 (by decide) (fun hc46 => ?_) (fun hc46 => ?_)
                  · refine r_iinc kx_275_207 rfl km_275_7 (by decide) ⟨by omega, by omega⟩ rfl ?_
                    refine s_goto (t := 22) kx_275_210 (by decide) ?_
                    exact cP.wk (lS1 rfl (lS1 rfl (lS1 rfl (lS1 rfl (lS1 rfl (lS1 rfl (lS1 rfl (lS1 rfl lS0)))))))) (ih14 v18 x5_4 v23 (x7_6 + 1) M7 hI7 hFm7 fl7 (by omega) (by omega) (by omega) (by omega))
                  · refine s_iload kx_275_200 rfl ?_
                    refine s_if_ne (t := 207) kx_275_202 (by decide) (fun hc47 => ?_) (fun hc47 => absurd hc47 (by decide))
                    refine r_iinc kx_275_207 rfl km_275_7 (by decide) ⟨by omega, by omega⟩ rfl ?_
                    refine s_goto (t := 22) kx_275_210 (by decide) ?_
                    exact cP.wk (lS1 rfl (lS1 rfl (lS1 rfl (lS1 rfl (lS1 rfl (lS1 rfl (lS1 rfl (lS1 rfl lS0)))))))) (ih14 v18 x5_4 v23 (x7_6 + 1) M7 hI7 hFm7 fl7 (by omega) (by omega) (by omega) (by omega))
        · refine s_iload kx_275_56 rfl ?_
          refine s_iload kx_275_58 rfl ?_
          refine s_icmp_ne (t := 83) kx_275_60 (by decide) (fun hc48 => ?_) (fun hc48 => ?_)
          · refine s_iconst (v := (-1)) kx_275_83 (by decide) ?_
            exact s_iret kx_275_84 (Or.inl kq_275) ⟨_, _, rfl, rfl, hI7, hFm7, trivial⟩
          · refine s_aload_n kx_275_63 rfl ?_
            refine r_getR (k := 63) (f := 50) (k2 := 94) kx_275_64 kp_275_165 (tk_63 hT) kf_12_50 (by decide) (rq_63_50 hI7) ?_
            refine s_iload_n kx_275_67 rfl ?_
            refine r_aldU (k := 94) kx_275_68 (tk_94 hT) ⟨by omega, by omega⟩ (fun v49 v49e => ?_)
            refine s_iconst (v := 1) kx_275_69 (by decide) ?_
            refine s_icmp_eq (t := 83) kx_275_70 (by decide) (fun hc50 => ?_) (fun hc50 => ?_)
            · refine s_iconst (v := (-1)) kx_275_83 (by decide) ?_
              exact s_iret kx_275_84 (Or.inl kq_275) ⟨_, _, rfl, rfl, hI7, hFm7, trivial⟩
            · refine s_aload_n kx_275_73 rfl ?_
              refine s_iload_n kx_275_74 rfl ?_
              refine s_iload kx_275_75 rfl ?_
              refine s_callV2 (k := 63) (s1 := 3) (s2 := 0) (as := [(0, v18), (0, p)]) (rest := []) kx_275_77 kp_275_517 (Or.inl rfl) rfl (tk_63 hT) ki_242 kcl_242 rfl rfl (by decide) (m_242 (d := d) (c := p) (r := v18) hT hI7 (by omega) (by omega)) (kF (fun v51 v51p => ?_))
              refine s_if_ne (t := 85) kx_275_80 (by decide) (fun hc52 => ?_) (fun hc52 => ?_)
              · refine s_iload kx_275_85 rfl ?_
                refine s_iload kx_275_87 rfl ?_
                refine s_if_eq (t := 109) kx_275_89 (by decide) (fun hc53 => absurd hc53 (by omega)) (fun hc53 => ?_)
                refine s_aload_n kx_275_92 rfl ?_
                refine s_iload_n kx_275_93 rfl ?_
                refine s_iload_n kx_275_94 rfl ?_
                refine s_aload_n kx_275_95 rfl ?_
                refine s_iload kx_275_96 rfl ?_
                refine s_iload kx_275_98 rfl ?_
                refine s_callV2 (k := 63) (s1 := 3) (s2 := 4) (as := [(0, v18), (0, x4_3)]) (rest := [(0, p), (0, p), rf 63, (0, x6_5)]) kx_275_100 kp_275_511 (Or.inl rfl) rfl (tk_63 hT) ki_245 kcl_245 rfl rfl (by decide) (m_245 (d := d + 3) (a := x4_3) (b := v18) hT hI7 (by omega) (by omega)) (kF (fun v54 v54p => ?_))
                refine s_callV2 (k := 63) (s1 := 4) (s2 := 1) (as := [(0, v54), (0, p), (0, p)]) (rest := [(0, x6_5)]) kx_275_103 kp_275_523 (Or.inl rfl) rfl (tk_63 hT) ki_235 kcl_235 rfl rfl (by decide) (m_235 (d := d) (p := p) (chair := p) (takes := v54) hT hI7 (hS.fr hFm7 rfl) (by omega) (by omega) (by omega)) (kW (fun v55 M56 hI56 fr56 v55p => ?_))
                have hFm56 := hFm7.call fr56 rfl
                have hFl2256 := fl7.call fr56 rfl
                refine s_goto (t := 117) kx_275_106 (by decide) ?_
                refine r_iaddR kx_275_117 (fun v57 v57a v57b => ?_)
                refine s_istore kx_275_118 km_275_6 rfl ?_
                refine s_iload kx_275_120 rfl ?_
                refine s_if_eq (t := 130) kx_275_122 (by decide) (fun hc58 => absurd hc58 (by omega)) (fun hc58 => ?_)
                refine s_iload kx_275_125 rfl ?_
                refine s_goto (t := 132) kx_275_127 (by decide) ?_
                refine s_istore kx_275_132 km_275_5 rfl ?_
                refine s_iload kx_275_134 rfl ?_
                refine s_istore kx_275_136 km_275_4 rfl ?_
                refine s_iload kx_275_138 rfl ?_
                refine s_iload kx_275_140 rfl ?_
                refine s_icmp_ne (t := 182) kx_275_142 (by decide) (fun hc59 => ?_) (fun hc59 => ?_)
                · refine s_iconst (v := 0) kx_275_182 (by decide) ?_
                  refine s_istore kx_275_183 km_275_10 rfl ?_
                  refine s_aload_n kx_275_185 rfl ?_
                  refine r_getR (k := 63) (f := 0) (k2 := 64) kx_275_186 kp_275_7 (tk_63 hT) kf_12_0 (by decide) (rq_63_0 hI56) ?_
                  refine s_iconst (v := 2) kx_275_189 (by decide) ?_
                  refine s_iload kx_275_190 rfl ?_
                  refine r_mul kx_275_192 ⟨by omega, by omega⟩ ?_
                  refine s_iconst (v := 1) kx_275_193 (by decide) ?_
                  refine r_add kx_275_194 ⟨by omega, by omega⟩ ?_
                  refine r_ald (k := 64) kx_275_195 (tk_64 hT) ⟨by omega, by omega⟩ (rg_64 hI56) (fun v60 v60e v60a v60b => ?_)
                  refine s_iconst (v := 1) kx_275_196 (by decide) ?_
                  refine s_icmp_ne (t := 207) kx_275_197 (by decide) (fun hc61 => ?_) (fun hc61 => ?_)
                  · refine r_iinc kx_275_207 rfl km_275_7 (by decide) ⟨by omega, by omega⟩ rfl ?_
                    refine s_goto (t := 22) kx_275_210 (by decide) ?_
                    exact cP.wk (lS1 rfl (lS1 rfl (lS1 rfl (lS1 rfl (lS1 rfl (lS1 rfl (lS1 rfl (lS1 rfl lS0)))))))) (ih14 v18 v18 v57 (x7_6 + 1) M56 hI56 hFm56 hFl2256 (by omega) (by omega) (by omega) (by omega))
                  · refine s_iload kx_275_200 rfl ?_
                    refine s_if_ne (t := 207) kx_275_202 (by decide) (fun hc62 => absurd hc62 (by decide)) (fun hc62 => ?_)
                    refine s_iconst (v := (-1)) kx_275_205 (by decide) ?_
                    exact s_iret kx_275_206 (Or.inl kq_275) ⟨_, _, rfl, rfl, hI56, hFm56, trivial⟩
                · refine s_aload_n kx_275_145 rfl ?_
                  refine r_getR (k := 63) (f := 50) (k2 := 94) kx_275_146 kp_275_165 (tk_63 hT) kf_12_50 (by decide) (rq_63_50 hI56) ?_
                  refine s_iload_n kx_275_149 rfl ?_
                  refine r_aldK (k := 94) kx_275_150 (tk_94 hT) ⟨by omega, by omega⟩ ((fr56 94 _ rfl).trans v49e) ?_
                  refine s_if_ne (t := 182) kx_275_151 (by decide) (fun hc63 => ?_) (fun hc63 => ?_)
                  · refine s_iconst (v := 0) kx_275_182 (by decide) ?_
                    refine s_istore kx_275_183 km_275_10 rfl ?_
                    refine s_aload_n kx_275_185 rfl ?_
                    refine r_getR (k := 63) (f := 0) (k2 := 64) kx_275_186 kp_275_7 (tk_63 hT) kf_12_0 (by decide) (rq_63_0 hI56) ?_
                    refine s_iconst (v := 2) kx_275_189 (by decide) ?_
                    refine s_iload kx_275_190 rfl ?_
                    refine r_mul kx_275_192 ⟨by omega, by omega⟩ ?_
                    refine s_iconst (v := 1) kx_275_193 (by decide) ?_
                    refine r_add kx_275_194 ⟨by omega, by omega⟩ ?_
                    refine r_ald (k := 64) kx_275_195 (tk_64 hT) ⟨by omega, by omega⟩ (rg_64 hI56) (fun v64 v64e v64a v64b => ?_)
                    refine s_iconst (v := 1) kx_275_196 (by decide) ?_
                    refine s_icmp_ne (t := 207) kx_275_197 (by decide) (fun hc65 => ?_) (fun hc65 => ?_)
                    · refine r_iinc kx_275_207 rfl km_275_7 (by decide) ⟨by omega, by omega⟩ rfl ?_
                      refine s_goto (t := 22) kx_275_210 (by decide) ?_
                      exact cP.wk (lS1 rfl (lS1 rfl (lS1 rfl (lS1 rfl (lS1 rfl (lS1 rfl (lS1 rfl (lS1 rfl lS0)))))))) (ih14 v18 v18 v57 (x7_6 + 1) M56 hI56 hFm56 hFl2256 (by omega) (by omega) (by omega) (by omega))
                    · refine s_iload kx_275_200 rfl ?_
                      refine s_if_ne (t := 207) kx_275_202 (by decide) (fun hc66 => absurd hc66 (by decide)) (fun hc66 => ?_)
                      refine s_iconst (v := (-1)) kx_275_205 (by decide) ?_
                      exact s_iret kx_275_206 (Or.inl kq_275) ⟨_, _, rfl, rfl, hI56, hFm56, trivial⟩
                  · refine s_aload_n kx_275_154 rfl ?_
                    refine s_iload_n kx_275_155 rfl ?_
                    refine s_callV2 (k := 63) (s1 := 2) (s2 := 0) (as := [(0, p)]) (rest := []) kx_275_156 kp_275_487 (Or.inl rfl) rfl (tk_63 hT) ki_238 kcl_238 rfl rfl (by decide) (m_238 (d := d + 3) (p := p) hT hI56 (by omega)) (kF (fun v67 v67p => ?_))
                    refine s_iconst (v := (-1)) kx_275_159 (by decide) ?_
                    refine s_icmp_eq (t := 178) kx_275_160 (by decide) (fun hc68 => ?_) (fun hc68 => ?_)
                    · refine s_iconst (v := 1) kx_275_178 (by decide) ?_
                      refine s_goto (t := 183) kx_275_179 (by decide) ?_
                      refine s_istore kx_275_183 km_275_10 rfl ?_
                      refine s_aload_n kx_275_185 rfl ?_
                      refine r_getR (k := 63) (f := 0) (k2 := 64) kx_275_186 kp_275_7 (tk_63 hT) kf_12_0 (by decide) (rq_63_0 hI56) ?_
                      refine s_iconst (v := 2) kx_275_189 (by decide) ?_
                      refine s_iload kx_275_190 rfl ?_
                      refine r_mul kx_275_192 ⟨by omega, by omega⟩ ?_
                      refine s_iconst (v := 1) kx_275_193 (by decide) ?_
                      refine r_add kx_275_194 ⟨by omega, by omega⟩ ?_
                      refine r_ald (k := 64) kx_275_195 (tk_64 hT) ⟨by omega, by omega⟩ (rg_64 hI56) (fun v69 v69e v69a v69b => ?_)
                      refine s_iconst (v := 1) kx_275_196 (by decide) ?_
                      refine s_icmp_ne (t := 207) kx_275_197 (by decide) (fun hc70 => ?_) (fun hc70 => ?_)
                      · refine r_iinc kx_275_207 rfl km_275_7 (by decide) ⟨by omega, by omega⟩ rfl ?_
                        refine s_goto (t := 22) kx_275_210 (by decide) ?_
                        exact cP.wk (lS1 rfl (lS1 rfl (lS1 rfl (lS1 rfl (lS1 rfl (lS1 rfl (lS1 rfl (lS1 rfl lS0)))))))) (ih14 v18 v18 v57 (x7_6 + 1) M56 hI56 hFm56 hFl2256 (by omega) (by omega) (by omega) (by omega))
                      · refine s_iload kx_275_200 rfl ?_
                        refine s_if_ne (t := 207) kx_275_202 (by decide) (fun hc71 => ?_) (fun hc71 => absurd hc71 (by decide))
                        refine r_iinc kx_275_207 rfl km_275_7 (by decide) ⟨by omega, by omega⟩ rfl ?_
                        refine s_goto (t := 22) kx_275_210 (by decide) ?_
                        exact cP.wk (lS1 rfl (lS1 rfl (lS1 rfl (lS1 rfl (lS1 rfl (lS1 rfl (lS1 rfl (lS1 rfl lS0)))))))) (ih14 v18 v18 v57 (x7_6 + 1) M56 hI56 hFm56 hFl2256 (by omega) (by omega) (by omega) (by omega))
                    · refine s_aload_n kx_275_163 rfl ?_
                      refine r_getR (k := 63) (f := 49) (k2 := 93) kx_275_164 kp_275_162 (tk_63 hT) kf_12_49 (by decide) (rq_63_49 hI56) ?_
                      refine s_aload_n kx_275_167 rfl ?_
                      refine s_iload_n kx_275_168 rfl ?_
                      refine s_callV2 (k := 63) (s1 := 2) (s2 := 1) (as := [(0, p)]) (rest := [rf 93]) kx_275_169 kp_275_487 (Or.inl rfl) rfl (tk_63 hT) ki_238 kcl_238 rfl rfl (by decide) (m_238 (d := d + 3) (p := p) hT hI56 (by omega)) (kF (fun v72 v72p => ?_))
                      refine r_ald (k := 93) kx_275_172 (tk_93 hT) ⟨by omega, by omega⟩ (rg_93 hI56 (by omega)) (fun v73 v73e v73a v73b => ?_)
                      refine s_iload kx_275_173 rfl ?_
                      refine s_icmp_ne (t := 182) kx_275_175 (by decide) (fun hc74 => ?_) (fun hc74 => ?_)
                      · refine s_iconst (v := 0) kx_275_182 (by decide) ?_
                        refine s_istore kx_275_183 km_275_10 rfl ?_
                        refine s_aload_n kx_275_185 rfl ?_
                        refine r_getR (k := 63) (f := 0) (k2 := 64) kx_275_186 kp_275_7 (tk_63 hT) kf_12_0 (by decide) (rq_63_0 hI56) ?_
                        refine s_iconst (v := 2) kx_275_189 (by decide) ?_
                        refine s_iload kx_275_190 rfl ?_
                        refine r_mul kx_275_192 ⟨by omega, by omega⟩ ?_
                        refine s_iconst (v := 1) kx_275_193 (by decide) ?_
                        refine r_add kx_275_194 ⟨by omega, by omega⟩ ?_
                        refine r_ald (k := 64) kx_275_195 (tk_64 hT) ⟨by omega, by omega⟩ (rg_64 hI56) (fun v75 v75e v75a v75b => ?_)
                        refine s_iconst (v := 1) kx_275_196 (by decide) ?_
                        refine s_icmp_ne (t := 207) kx_275_197 (by decide) (fun hc76 => ?_) (fun hc76 => ?_)
                        · refine r_iinc kx_275_207 rfl km_275_7 (by decide) ⟨by omega, by omega⟩ rfl ?_
                          refine s_goto (t := 22) kx_275_210 (by decide) ?_
                          exact cP.wk (lS1 rfl (lS1 rfl (lS1 rfl (lS1 rfl (lS1 rfl (lS1 rfl (lS1 rfl (lS1 rfl lS0)))))))) (ih14 v18 v18 v57 (x7_6 + 1) M56 hI56 hFm56 hFl2256 (by omega) (by omega) (by omega) (by omega))
                        · refine s_iload kx_275_200 rfl ?_
                          refine s_if_ne (t := 207) kx_275_202 (by decide) (fun hc77 => absurd hc77 (by decide)) (fun hc77 => ?_)
                          refine s_iconst (v := (-1)) kx_275_205 (by decide) ?_
                          exact s_iret kx_275_206 (Or.inl kq_275) ⟨_, _, rfl, rfl, hI56, hFm56, trivial⟩
                      · refine s_iconst (v := 1) kx_275_178 (by decide) ?_
                        refine s_goto (t := 183) kx_275_179 (by decide) ?_
                        refine s_istore kx_275_183 km_275_10 rfl ?_
                        refine s_aload_n kx_275_185 rfl ?_
                        refine r_getR (k := 63) (f := 0) (k2 := 64) kx_275_186 kp_275_7 (tk_63 hT) kf_12_0 (by decide) (rq_63_0 hI56) ?_
                        refine s_iconst (v := 2) kx_275_189 (by decide) ?_
                        refine s_iload kx_275_190 rfl ?_
                        refine r_mul kx_275_192 ⟨by omega, by omega⟩ ?_
                        refine s_iconst (v := 1) kx_275_193 (by decide) ?_
                        refine r_add kx_275_194 ⟨by omega, by omega⟩ ?_
                        refine r_ald (k := 64) kx_275_195 (tk_64 hT) ⟨by omega, by omega⟩ (rg_64 hI56) (fun v78 v78e v78a v78b => ?_)
                        refine s_iconst (v := 1) kx_275_196 (by decide) ?_
                        refine s_icmp_ne (t := 207) kx_275_197 (by decide) (fun hc79 => ?_) (fun hc79 => ?_)
                        · refine r_iinc kx_275_207 rfl km_275_7 (by decide) ⟨by omega, by omega⟩ rfl ?_
                          refine s_goto (t := 22) kx_275_210 (by decide) ?_
                          exact cP.wk (lS1 rfl (lS1 rfl (lS1 rfl (lS1 rfl (lS1 rfl (lS1 rfl (lS1 rfl (lS1 rfl lS0)))))))) (ih14 v18 v18 v57 (x7_6 + 1) M56 hI56 hFm56 hFl2256 (by omega) (by omega) (by omega) (by omega))
                        · refine s_iload kx_275_200 rfl ?_
                          refine s_if_ne (t := 207) kx_275_202 (by decide) (fun hc80 => ?_) (fun hc80 => absurd hc80 (by decide))
                          refine r_iinc kx_275_207 rfl km_275_7 (by decide) ⟨by omega, by omega⟩ rfl ?_
                          refine s_goto (t := 22) kx_275_210 (by decide) ?_
                          exact cP.wk (lS1 rfl (lS1 rfl (lS1 rfl (lS1 rfl (lS1 rfl (lS1 rfl (lS1 rfl (lS1 rfl lS0)))))))) (ih14 v18 v18 v57 (x7_6 + 1) M56 hI56 hFm56 hFl2256 (by omega) (by omega) (by omega) (by omega))
              · refine s_iconst (v := (-1)) kx_275_83 (by decide) ?_
                exact s_iret kx_275_84 (Or.inl kq_275) ⟨_, _, rfl, rfl, hI7, hFm7, trivial⟩
  exact cP.wk (lS1 rfl (lS1 rfl (lS1 rfl (lS1 rfl (lS1 rfl (lS1 rfl (lS1 rfl (lS1 rfl lS0)))))))) (key8 _ v1 v2 0 0 M hI hFm Fr.refl (by omega) (by omega) (by omega) (Nat.lt_succ_self _))
theorem kx_277_0 : x_code k_P 277 0 = some (.aload_n 0, 1) := by decide +kernel
theorem kx_277_1 : x_code k_P 277 1 = some (.getfield 13, 3) := by decide +kernel
theorem kp_277_13 : x_pool k_P 277 13 = (1, 12, 1) := by decide +kernel
theorem kx_277_4 : x_code k_P 277 4 = some (.istore_n 2, 1) := by decide +kernel
theorem km_277_2 : 2 < x_maxL k_P 277 := by decide +kernel
theorem kx_277_5 : x_code k_P 277 5 = some (.aload_n 0, 1) := by decide +kernel
theorem kx_277_6 : x_code k_P 277 6 = some (.iconst 0, 1) := by decide +kernel
theorem kx_277_7 : x_code k_P 277 7 = some (.putfield 13, 3) := by decide +kernel
theorem kx_277_10 : x_code k_P 277 10 = some (.aload_n 0, 1) := by decide +kernel
theorem kx_277_11 : x_code k_P 277 11 = some (.iload_n 1, 1) := by decide +kernel
theorem kx_277_12 : x_code k_P 277 12 = some (.iload_n 2, 1) := by decide +kernel
theorem kx_277_13 : x_code k_P 277 13 = some (.invokevirtual 588, 3) := by decide +kernel
theorem kp_277_588 : x_pool k_P 277 588 = (2, 276, 2) := by decide +kernel
theorem ki_276 : x_mci k_P 276 = 12 := by decide +kernel
theorem kcl_276 : x_maxL k_P 276 ≤ 60 ∧ 3 ≤ x_maxL k_P 276 := by decide +kernel
theorem kx_277_16 : x_code k_P 277 16 = some (.ifCond .ne 9, 3) := by decide +kernel
theorem kx_277_25 : x_code k_P 277 25 = some (.iload_n 2, 1) := by decide +kernel
theorem kx_277_26 : x_code k_P 277 26 = some (.iconst 2, 1) := by decide +kernel
theorem kx_277_27 : x_code k_P 277 27 = some (.idiv, 1) := by decide +kernel
theorem kx_277_28 : x_code k_P 277 28 = some (.istore_n 3, 1) := by decide +kernel
theorem km_277_3 : 3 < x_maxL k_P 277 := by decide +kernel
theorem kx_277_29 : x_code k_P 277 29 = some (.iconst (-1), 1) := by decide +kernel
theorem kx_277_30 : x_code k_P 277 30 = some (.istore 4, 2) := by decide +kernel
theorem km_277_4 : 4 < x_maxL k_P 277 := by decide +kernel
theorem kx_277_32 : x_code k_P 277 32 = some (.ldc_w 571, 3) := by decide +kernel
theorem kp_277_571 : x_pool k_P 277 571 = (7, 0, 100000000) := by decide +kernel
theorem kx_277_35 : x_code k_P 277 35 = some (.istore 5, 2) := by decide +kernel
theorem km_277_5 : 5 < x_maxL k_P 277 := by decide +kernel
theorem kx_277_37 : x_code k_P 277 37 = some (.iconst 0, 1) := by decide +kernel
theorem kx_277_38 : x_code k_P 277 38 = some (.istore 6, 2) := by decide +kernel
theorem km_277_6 : 6 < x_maxL k_P 277 := by decide +kernel
theorem kx_277_40 : x_code k_P 277 40 = some (.iload 6, 2) := by decide +kernel
theorem kx_277_42 : x_code k_P 277 42 = some (.iconst 1, 1) := by decide +kernel
theorem kx_277_43 : x_code k_P 277 43 = some (.iload_n 3, 1) := by decide +kernel
theorem kx_277_44 : x_code k_P 277 44 = some (.ishl, 1) := by decide +kernel
theorem kx_277_45 : x_code k_P 277 45 = some (.if_icmp .ge 43, 3) := by decide +kernel
theorem kx_277_88 : x_code k_P 277 88 = some (.aload_n 0, 1) := by decide +kernel
theorem kx_277_89 : x_code k_P 277 89 = some (.iload 4, 2) := by decide +kernel
theorem kx_277_91 : x_code k_P 277 91 = some (.iconst (-1), 1) := by decide +kernel
theorem kx_277_92 : x_code k_P 277 92 = some (.if_icmp .ne 7, 3) := by decide +kernel
theorem kx_277_99 : x_code k_P 277 99 = some (.iload_n 3, 1) := by decide +kernel
theorem kx_277_95 : x_code k_P 277 95 = some (.iconst 0, 1) := by decide +kernel
theorem kx_277_96 : x_code k_P 277 96 = some (.goto 4, 3) := by decide +kernel
theorem kx_277_100 : x_code k_P 277 100 = some (.putfield 219, 3) := by decide +kernel
theorem kp_277_219 : x_pool k_P 277 219 = (1, 12, 68) := by decide +kernel
theorem kx_277_103 : x_code k_P 277 103 = some (.iconst 0, 1) := by decide +kernel
theorem kx_277_104 : x_code k_P 277 104 = some (.istore 6, 2) := by decide +kernel
theorem kx_277_106 : x_code k_P 277 106 = some (.iload 6, 2) := by decide +kernel
theorem kx_277_108 : x_code k_P 277 108 = some (.aload_n 0, 1) := by decide +kernel
theorem kx_277_109 : x_code k_P 277 109 = some (.getfield 219, 3) := by decide +kernel
theorem kx_277_112 : x_code k_P 277 112 = some (.if_icmp .ge 35, 3) := by decide +kernel
theorem kx_277_147 : x_code k_P 277 147 = some (.iload 4, 2) := by decide +kernel
theorem kx_277_149 : x_code k_P 277 149 = some (.iconst (-1), 1) := by decide +kernel
theorem kx_277_150 : x_code k_P 277 150 = some (.if_icmp .ne 7, 3) := by decide +kernel
theorem kx_277_157 : x_code k_P 277 157 = some (.iload 5, 2) := by decide +kernel
theorem kx_277_159 : x_code k_P 277 159 = some (.ireturn, 1) := by decide +kernel
theorem kq_277 : x_retk k_P 277 = 1 := by decide +kernel
theorem kx_277_153 : x_code k_P 277 153 = some (.iconst (-1), 1) := by decide +kernel
theorem kx_277_154 : x_code k_P 277 154 = some (.goto 5, 3) := by decide +kernel
theorem kx_277_115 : x_code k_P 277 115 = some (.aload_n 0, 1) := by decide +kernel
theorem kx_277_116 : x_code k_P 277 116 = some (.getfield 222, 3) := by decide +kernel
theorem kp_277_222 : x_pool k_P 277 222 = (1, 12, 69) := by decide +kernel
theorem kx_277_119 : x_code k_P 277 119 = some (.iload 6, 2) := by decide +kernel
theorem kx_277_121 : x_code k_P 277 121 = some (.iload 4, 2) := by decide +kernel
theorem kx_277_123 : x_code k_P 277 123 = some (.iload_n 3, 1) := by decide +kernel
theorem kx_277_124 : x_code k_P 277 124 = some (.iconst 1, 1) := by decide +kernel
theorem kx_277_125 : x_code k_P 277 125 = some (.isub, 1) := by decide +kernel
theorem kx_277_126 : x_code k_P 277 126 = some (.iload 6, 2) := by decide +kernel
theorem kx_277_128 : x_code k_P 277 128 = some (.isub, 1) := by decide +kernel
theorem kx_277_129 : x_code k_P 277 129 = some (.invokestatic 585, 3) := by decide +kernel
theorem kp_277_585 : x_pool k_P 277 585 = (6, 222, 2) := by decide +kernel
theorem kx_277_132 : x_code k_P 277 132 = some (.ifCond .eq 7, 3) := by decide +kernel
theorem kx_277_139 : x_code k_P 277 139 = some (.iconst 0, 1) := by decide +kernel
theorem kx_277_140 : x_code k_P 277 140 = some (.iastore, 1) := by decide +kernel
theorem kx_277_141 : x_code k_P 277 141 = some (.iinc 6 1, 3) := by decide +kernel
theorem kx_277_144 : x_code k_P 277 144 = some (.goto (-38), 3) := by decide +kernel
theorem kx_277_135 : x_code k_P 277 135 = some (.iconst 1, 1) := by decide +kernel
theorem kx_277_136 : x_code k_P 277 136 = some (.goto 4, 3) := by decide +kernel
theorem kx_277_48 : x_code k_P 277 48 = some (.aload_n 0, 1) := by decide +kernel
theorem kx_277_49 : x_code k_P 277 49 = some (.iload_n 1, 1) := by decide +kernel
theorem kx_277_50 : x_code k_P 277 50 = some (.iload_n 3, 1) := by decide +kernel
theorem kx_277_51 : x_code k_P 277 51 = some (.iload 6, 2) := by decide +kernel
theorem kx_277_53 : x_code k_P 277 53 = some (.invokevirtual 591, 3) := by decide +kernel
theorem kp_277_591 : x_pool k_P 277 591 = (2, 275, 3) := by decide +kernel
theorem ki_275 : x_mci k_P 275 = 12 := by decide +kernel
theorem kcl_275 : x_maxL k_P 275 ≤ 60 ∧ 4 ≤ x_maxL k_P 275 := by decide +kernel
theorem kx_277_56 : x_code k_P 277 56 = some (.istore 7, 2) := by decide +kernel
theorem km_277_7 : 7 < x_maxL k_P 277 := by decide +kernel
theorem kx_277_58 : x_code k_P 277 58 = some (.iload 7, 2) := by decide +kernel
theorem kx_277_60 : x_code k_P 277 60 = some (.iconst (-1), 1) := by decide +kernel
theorem kx_277_61 : x_code k_P 277 61 = some (.if_icmp .eq 21, 3) := by decide +kernel
theorem kx_277_82 : x_code k_P 277 82 = some (.iinc 6 1, 3) := by decide +kernel
theorem kx_277_85 : x_code k_P 277 85 = some (.goto (-45), 3) := by decide +kernel
theorem kx_277_64 : x_code k_P 277 64 = some (.iload 7, 2) := by decide +kernel
theorem kx_277_66 : x_code k_P 277 66 = some (.iload 5, 2) := by decide +kernel
theorem kx_277_68 : x_code k_P 277 68 = some (.if_icmp .lt 6, 3) := by decide +kernel
theorem kx_277_74 : x_code k_P 277 74 = some (.iload 7, 2) := by decide +kernel
theorem kx_277_76 : x_code k_P 277 76 = some (.istore 5, 2) := by decide +kernel
theorem kx_277_78 : x_code k_P 277 78 = some (.iload 6, 2) := by decide +kernel
theorem kx_277_80 : x_code k_P 277 80 = some (.istore 4, 2) := by decide +kernel
theorem kx_277_71 : x_code k_P 277 71 = some (.goto 11, 3) := by decide +kernel
theorem kx_277_19 : x_code k_P 277 19 = some (.aload_n 0, 1) := by decide +kernel
theorem kx_277_20 : x_code k_P 277 20 = some (.iconst 5, 1) := by decide +kernel
theorem kx_277_21 : x_code k_P 277 21 = some (.invokevirtual 255, 3) := by decide +kernel
theorem kp_277_255 : x_pool k_P 277 255 = (2, 218, 1) := by decide +kernel
theorem kx_277_24 : x_code k_P 277 24 = some (.ireturn, 1) := by decide +kernel
def fS_277_l106 : List (Nat × Nat) := [(106, 99999)]
def fS_277_l40 : List (Nat × Nat) := [(102, 99999), (63, 62), (63, 63), (63, 64)]
def fS_277_m : List (Nat × Nat) := [(102, 99999), (106, 99999), (63, 1), (63, 62), (63, 63), (63, 64), (63, 68), (91, 99999)]
def fS_277_j92 : List (Nat × Nat) := []
theorem m_277 {xs : Nat → Int} {Ln d : Nat} {T : List cK} {M : cM} (hT : TT T) (hI : Rng M) {p : Int} (hS : Sg M) : cC k_P xs Ln (d + 5) 277 [rf 63, (0, p)] (T, M) (qW T M fS_277_m 0 (fun v M1 => M1 63 1 = 0)) := by
  show cP k_P xs Ln (d + 5) 277 0 [(0, rf 63), (1, (0, p))] [] (T, M) _
  have hFm : Fr fS_277_m M M := Fr.refl
  refine s_aload_n kx_277_0 rfl ?_
  refine r_getI (k := 63) (f := 1) kx_277_1 kp_277_13 (tk_63 hT) kf_12_1 (fun _ => rfl) (rg_63_1 hI) (fun v1 v1e v1a v1b => ?_)
  refine s_istore_n kx_277_4 km_277_2 rfl ?_
  refine s_aload_n kx_277_5 rfl ?_
  refine s_iconst (v := 0) kx_277_6 (by decide) ?_
  refine r_put (k := 63) (f := 1) kx_277_7 kp_277_13 (tk_63 hT) kf_12_1 rfl (by decide) (by decide) hI (ru_63_1 (by omega) (by omega)) (fun M2 hI2 u2 => ?_)
  have hFm2 := hFm.up u2 rfl
  refine s_aload_n kx_277_10 rfl ?_
  refine s_iload_n kx_277_11 rfl ?_
  refine s_iload_n kx_277_12 rfl ?_
  refine s_callV2 (k := 63) (s1 := 3) (s2 := 0) (as := [(0, v1), (0, p)]) (rest := []) kx_277_13 kp_277_588 (Or.inl rfl) rfl (tk_63 hT) ki_276 kcl_276 rfl rfl (by decide) (m_276 (d := d + 3) (p := p) (n := v1) hT hI2 (by omega)) (kF (fun v3 v3p => ?_))
  refine s_if_ne (t := 25) kx_277_16 (by decide) (fun hc4 => ?_) (fun hc4 => ?_)
  · replace v3p := v3p.resolve_right (by omega)
    refine s_iload_n kx_277_25 rfl ?_
    refine s_iconst (v := 2) kx_277_26 (by decide) ?_
    refine r_idiv kx_277_27 (by omega) (by omega) (by omega) (by omega) ?_
    refine s_istore_n kx_277_28 km_277_3 rfl ?_
    refine s_iconst (v := (-1)) kx_277_29 (by decide) ?_
    refine s_istore kx_277_30 km_277_4 rfl ?_
    refine s_ldc_w kx_277_32 kp_277_571 ?_
    refine s_istore kx_277_35 km_277_5 rfl ?_
    refine s_iconst (v := 0) kx_277_37 (by decide) ?_
    refine s_istore kx_277_38 km_277_6 rfl ?_
    have key9 : ∀ n10 : Nat, ∀ (x4_5 x5_6 x6_7 : Int), ∀ M8 : cM, Rng M8 → Fr fS_277_m M M8 → Fr fS_277_l40 M2 M8 → ((-2147483648) ≤ x4_5) → (x4_5 ≤ 2147483647) → (0 ≤ x6_7) → (2147483647 - x6_7).toNat < n10 → cP k_P xs Ln (d + 5) 277 40 [(0, rf 63), (1, (0, p)), (3, (0, (v1 / 2))), (4, (0, x4_5)), (5, (0, x5_6)), (6, (0, x6_7))] [] (T, M8) (qW T M fS_277_m 0 (fun v M1 => M1 63 1 = 0)) := by
      intro n10
      induction n10 with
      | zero => intro x4_5 x5_6 x6_7 M8 hI8 hFm8 fl8 i11 i12 i13 hm14; exact absurd hm14 (Nat.not_lt_zero _)
      | succ n10 ih15 =>
        intro x4_5 x5_6 x6_7 M8 hI8 hFm8 fl8 i11 i12 i13 hm14
        refine s_iload kx_277_40 rfl ?_
        refine s_iconst (v := 1) kx_277_42 (by decide) ?_
        refine s_iload_n kx_277_43 rfl ?_
        refine r_ishlR kx_277_44 (fun v16 v16a v16b => ?_)
        refine s_icmp_ge (t := 88) kx_277_45 (by decide) (fun hc17 => ?_) (fun hc17 => ?_)
        · refine s_aload_n kx_277_88 rfl ?_
          refine s_iload kx_277_89 rfl ?_
          refine s_iconst (v := (-1)) kx_277_91 (by decide) ?_
          have jn22 : ∀ (y21 : Int), (0 ≤ y21) → (y21 ≤ 800) → (y21 ≤ 12) → cP k_P xs Ln (d + 5) 277 100 [(0, rf 63), (3, (0, (v1 / 2))), (4, (0, x4_5)), (5, (0, x5_6))] [(0, y21), rf 63] (T, M8) (qW T M fS_277_m 0 (fun v M1 => M1 63 1 = 0)) := by
            intro y21 a23 a24 a25
            refine r_put (k := 63) (f := 68) kx_277_100 kp_277_219 (tk_63 hT) kf_12_68 rfl (by decide) (by decide) hI8 (ru_63_68 (by omega) (by omega)) (fun M26 hI26 u26 => ?_)
            have hFm26 := hFm8.up u26 rfl
            refine s_iconst (v := 0) kx_277_103 (by decide) ?_
            refine s_istore kx_277_104 km_277_6 rfl ?_
            have key29 : ∀ n30 : Nat, ∀ (x6_27 : Int), ∀ M28 : cM, Rng M28 → Fr fS_277_m M M28 → Fr fS_277_l106 M26 M28 → (0 ≤ x6_27) → (2147483647 - x6_27).toNat < n30 → cP k_P xs Ln (d + 5) 277 106 [(0, rf 63), (3, (0, (v1 / 2))), (4, (0, x4_5)), (5, (0, x5_6)), (6, (0, x6_27))] [] (T, M28) (qW T M fS_277_m 0 (fun v M1 => M1 63 1 = 0)) := by
              intro n30
              induction n30 with
              | zero => intro x6_27 M28 hI28 hFm28 fl28 i31 hm32; exact absurd hm32 (Nat.not_lt_zero _)
              | succ n30 ih33 =>
                intro x6_27 M28 hI28 hFm28 fl28 i31 hm32
                refine s_iload kx_277_106 rfl ?_
                refine s_aload_n kx_277_108 rfl ?_
                refine r_getK (k := 63) (f := 68) kx_277_109 kp_277_219 (tk_63 hT) kf_12_68 (fun _ => rfl) ((fl28 63 68 rfl).trans u26.1) ?_
                refine s_icmp_ge (t := 147) kx_277_112 (by decide) (fun hc34 => ?_) (fun hc34 => ?_)
                · refine s_iload kx_277_147 rfl ?_
                  refine s_iconst (v := (-1)) kx_277_149 (by decide) ?_
                  refine s_icmp_ne (t := 157) kx_277_150 (by decide) (fun hc35 => ?_) (fun hc35 => ?_)
                  · refine s_iload kx_277_157 rfl ?_
                    have hk36 : M28 63 1 = 0 := ((fl28 63 1 rfl).trans ((u26.2 63 1 (by omega)).trans ((fl8 63 1 rfl).trans u2.1)))
                    exact s_iret kx_277_159 (Or.inl kq_277) ⟨_, _, rfl, rfl, hI28, hFm28, (by omega)⟩
                  · refine s_iconst (v := (-1)) kx_277_153 (by decide) ?_
                    refine s_goto (t := 159) kx_277_154 (by decide) ?_
                    have hk37 : M28 63 1 = 0 := ((fl28 63 1 rfl).trans ((u26.2 63 1 (by omega)).trans ((fl8 63 1 rfl).trans u2.1)))
                    exact s_iret kx_277_159 (Or.inl kq_277) ⟨_, _, rfl, rfl, hI28, hFm28, (by omega)⟩
                · refine s_aload_n kx_277_115 rfl ?_
                  refine r_getR (k := 63) (f := 69) (k2 := 106) kx_277_116 kp_277_222 (tk_63 hT) kf_12_69 (by decide) (rq_63_69 hI28) ?_
                  refine s_iload kx_277_119 rfl ?_
                  refine s_iload kx_277_121 rfl ?_
                  refine s_iload_n kx_277_123 rfl ?_
                  refine s_iconst (v := 1) kx_277_124 (by decide) ?_
                  refine r_sub kx_277_125 ⟨by omega, by omega⟩ ?_
                  refine s_iload kx_277_126 rfl ?_
                  refine r_sub kx_277_128 ⟨by omega, by omega⟩ ?_
                  refine s_callS2 (s1 := 2) (s2 := 2) (as := [(0, (((v1 / 2) - 1) - x6_27)), (0, x4_5)]) (rest := [(0, x6_27), rf 106]) kx_277_129 kp_277_585 rfl kcl_222 rfl rfl (by decide) (m_222 (d := d + 4) (set := x4_5) (k := (((v1 / 2) - 1) - x6_27)) hT hI28) (kF (fun v38 v38p => ?_))
                  refine s_if_eq (t := 139) kx_277_132 (by decide) (fun hc39 => ?_) (fun hc39 => ?_)
                  · refine s_iconst (v := 0) kx_277_139 (by decide) ?_
                    refine r_ast (k := 106) kx_277_140 (tk_106 hT) ⟨by omega, by omega⟩ hI28 ru_106 (fun M40 hI40 u40 => ?_)
                    have hFm40 := hFm28.up u40 rfl
                    have hFl10640 := fl28.up u40 rfl
                    refine r_iinc kx_277_141 rfl km_277_6 (by decide) ⟨by omega, by omega⟩ rfl ?_
                    refine s_goto (t := 106) kx_277_144 (by decide) ?_
                    exact cP.wk (lS1 rfl (lS1 rfl (lS1 rfl (lS1 rfl (lS1 rfl lS0))))) (ih33 (x6_27 + 1) M40 hI40 hFm40 hFl10640 (by omega) (by omega))
                  · refine s_iconst (v := 1) kx_277_135 (by decide) ?_
                    refine s_goto (t := 140) kx_277_136 (by decide) ?_
                    refine r_ast (k := 106) kx_277_140 (tk_106 hT) ⟨by omega, by omega⟩ hI28 ru_106 (fun M41 hI41 u41 => ?_)
                    have hFm41 := hFm28.up u41 rfl
                    have hFl10641 := fl28.up u41 rfl
                    refine r_iinc kx_277_141 rfl km_277_6 (by decide) ⟨by omega, by omega⟩ rfl ?_
                    refine s_goto (t := 106) kx_277_144 (by decide) ?_
                    exact cP.wk (lS1 rfl (lS1 rfl (lS1 rfl (lS1 rfl (lS1 rfl lS0))))) (ih33 (x6_27 + 1) M41 hI41 hFm41 hFl10641 (by omega) (by omega))
            exact cP.wk (lS1 rfl (lS1 rfl (lS1 rfl (lS1 rfl (lS1 rfl lS0))))) (key29 _ 0 M26 hI26 hFm26 Fr.refl (by omega) (Nat.lt_succ_self _))
          refine s_icmp_ne (t := 99) kx_277_92 (by decide) (fun hc18 => ?_) (fun hc18 => ?_)
          · have hJ19 : Fr fS_277_j92 M8 M8 := Fr.refl
            refine s_iload_n kx_277_99 rfl ?_
            exact cP.wk (lS1 rfl (lS1 rfl (lS1 rfl (lS1 rfl lS0)))) (jn22 (v1 / 2) (by omega) (by omega) (by omega))
          · have hJ20 : Fr fS_277_j92 M8 M8 := Fr.refl
            refine s_iconst (v := 0) kx_277_95 (by decide) ?_
            refine s_goto (t := 100) kx_277_96 (by decide) ?_
            exact cP.wk (lS1 rfl (lS1 rfl (lS1 rfl (lS1 rfl lS0)))) (jn22 0 (by omega) (by omega) (by omega))
        · refine s_aload_n kx_277_48 rfl ?_
          refine s_iload_n kx_277_49 rfl ?_
          refine s_iload_n kx_277_50 rfl ?_
          refine s_iload kx_277_51 rfl ?_
          refine s_callV2 (k := 63) (s1 := 4) (s2 := 0) (as := [(0, x6_7), (0, (v1 / 2)), (0, p)]) (rest := []) kx_277_53 kp_277_591 (Or.inl rfl) rfl (tk_63 hT) ki_275 kcl_275 rfl rfl (by decide) (m_275 (d := d) (p := p) (many := (v1 / 2)) (way := x6_7) hT hI8 (hS.fr hFm8 rfl) (by omega) (by omega) (fun q a b => by rw [show M8 64 (2 * q).toNat = M2 64 (2 * q).toNat from (fl8 64 _ rfl)]; exact v3p.2.2.2.2.2.2 q a (by omega))) (kW (fun v42 M43 hI43 fr43 v42p => ?_))
          have hFm43 := hFm8.call fr43 rfl
          have hFl4043 := fl8.call fr43 rfl
          refine s_istore kx_277_56 km_277_7 rfl ?_
          refine s_iload kx_277_58 rfl ?_
          refine s_iconst (v := (-1)) kx_277_60 (by decide) ?_
          refine s_icmp_eq (t := 82) kx_277_61 (by decide) (fun hc44 => ?_) (fun hc44 => ?_)
          · refine r_iinc kx_277_82 rfl km_277_6 (by decide) ⟨by omega, by omega⟩ rfl ?_
            refine s_goto (t := 40) kx_277_85 (by decide) ?_
            exact cP.wk (lS1 rfl (lS1 rfl (lS1 rfl (lS1 rfl (lS1 rfl (lS1 rfl lS0)))))) (ih15 x4_5 x5_6 (x6_7 + 1) M43 hI43 hFm43 hFl4043 (by omega) (by omega) (by omega) (by omega))
          · refine s_iload kx_277_64 rfl ?_
            refine s_iload kx_277_66 rfl ?_
            refine s_icmp_lt (t := 74) kx_277_68 (by decide) (fun hc45 => ?_) (fun hc45 => ?_)
            · refine s_iload kx_277_74 rfl ?_
              refine s_istore kx_277_76 km_277_5 rfl ?_
              refine s_iload kx_277_78 rfl ?_
              refine s_istore kx_277_80 km_277_4 rfl ?_
              refine r_iinc kx_277_82 rfl km_277_6 (by decide) ⟨by omega, by omega⟩ rfl ?_
              refine s_goto (t := 40) kx_277_85 (by decide) ?_
              exact cP.wk (lS1 rfl (lS1 rfl (lS1 rfl (lS1 rfl (lS1 rfl (lS1 rfl lS0)))))) (ih15 x6_7 v42 (x6_7 + 1) M43 hI43 hFm43 hFl4043 (by omega) (by omega) (by omega) (by omega))
            · refine s_goto (t := 82) kx_277_71 (by decide) ?_
              refine r_iinc kx_277_82 rfl km_277_6 (by decide) ⟨by omega, by omega⟩ rfl ?_
              refine s_goto (t := 40) kx_277_85 (by decide) ?_
              exact cP.wk (lS1 rfl (lS1 rfl (lS1 rfl (lS1 rfl (lS1 rfl (lS1 rfl lS0)))))) (ih15 x4_5 x5_6 (x6_7 + 1) M43 hI43 hFm43 hFl4043 (by omega) (by omega) (by omega) (by omega))
    exact cP.wk (lS1 rfl (lS1 rfl (lS1 rfl (lS1 rfl (lS1 rfl (lS1 rfl lS0)))))) (key9 _ (-1) 100000000 0 M2 hI2 hFm2 Fr.refl (by omega) (by omega) (by omega) (Nat.lt_succ_self _))
  · replace v3p := v3p.resolve_left (by omega)
    refine s_aload_n kx_277_19 rfl ?_
    refine s_iconst (v := 5) kx_277_20 (by decide) ?_
    refine s_callV2 (k := 63) (s1 := 2) (s2 := 0) (as := [(0, 5)]) (rest := []) kx_277_21 kp_277_255 (Or.inl rfl) rfl (tk_63 hT) ki_218 kcl_218 rfl rfl (by decide) (m_218 (d := d + 4) (kind := 5) hT hI2 (by omega)) (kW (fun v46 M47 hI47 fr47 v46p => ?_))
    have hFm47 := hFm2.call fr47 rfl
    have hk48 : M47 63 1 = 0 := ((fr47 63 1 rfl).trans u2.1)
    exact s_iret kx_277_24 (Or.inl kq_277) ⟨_, _, rfl, rfl, hI47, hFm47, (by omega)⟩
theorem kx_223_0 : x_code k_P 223 0 = some (.iconst 0, 1) := by decide +kernel
theorem kx_223_1 : x_code k_P 223 1 = some (.istore_n 1, 1) := by decide +kernel
theorem km_223_1 : 1 < x_maxL k_P 223 := by decide +kernel
theorem kx_223_2 : x_code k_P 223 2 = some (.iload_n 0, 1) := by decide +kernel
theorem kx_223_3 : x_code k_P 223 3 = some (.istore_n 2, 1) := by decide +kernel
theorem km_223_2 : 2 < x_maxL k_P 223 := by decide +kernel
theorem kx_223_4 : x_code k_P 223 4 = some (.iload_n 2, 1) := by decide +kernel
theorem kx_223_5 : x_code k_P 223 5 = some (.ifCond .eq 15, 3) := by decide +kernel
theorem kx_223_20 : x_code k_P 223 20 = some (.iload_n 1, 1) := by decide +kernel
theorem kx_223_21 : x_code k_P 223 21 = some (.ireturn, 1) := by decide +kernel
theorem kq_223 : x_retk k_P 223 = 1 := by decide +kernel
theorem kx_223_8 : x_code k_P 223 8 = some (.iinc 1 1, 3) := by decide +kernel
theorem kx_223_11 : x_code k_P 223 11 = some (.iload_n 2, 1) := by decide +kernel
theorem kx_223_12 : x_code k_P 223 12 = some (.iload_n 2, 1) := by decide +kernel
theorem kx_223_13 : x_code k_P 223 13 = some (.iconst 1, 1) := by decide +kernel
theorem kx_223_14 : x_code k_P 223 14 = some (.isub, 1) := by decide +kernel
theorem kx_223_15 : x_code k_P 223 15 = some (.iand, 1) := by decide +kernel
theorem kx_223_16 : x_code k_P 223 16 = some (.istore_n 2, 1) := by decide +kernel
theorem kx_223_17 : x_code k_P 223 17 = some (.goto (-13), 3) := by decide +kernel
theorem m_223 {xs : Nat → Int} {Ln d : Nat} {T : List cK} {M : cM} (hT : TT T) (hI : Rng M) {set : Int} (p0 : 0 ≤ set ∧ set ≤ 2147483647) : cC k_P xs Ln (d + 0) 223 [(0, set)] (T, M) (qF T M 0 (fun v => True)) := by
  show cP k_P xs Ln (d + 0) 223 0 [(0, (0, set))] [] (T, M) _
  refine s_iconst (v := 0) kx_223_0 (by decide) ?_
  refine s_istore_n kx_223_1 km_223_1 rfl ?_
  refine s_iload_n kx_223_2 rfl ?_
  refine s_istore_n kx_223_3 km_223_2 rfl ?_
  have key3 : ∀ n4 : Nat, ∀ (x1_1 x2_2 : Int), ((-2147483648) ≤ x1_1) → (x1_1 ≤ 2147483647) → (0 ≤ x2_2) → (x2_2 ≤ 2147483647) → (x2_2).toNat < n4 → cP k_P xs Ln (d + 0) 223 4 [(1, (0, x1_1)), (2, (0, x2_2))] [] (T, M) (qF T M 0 (fun v => True)) := by
    intro n4
    induction n4 with
    | zero => intro x1_1 x2_2 i5 i6 i7 i8 hm9; exact absurd hm9 (Nat.not_lt_zero _)
    | succ n4 ih10 =>
      intro x1_1 x2_2 i5 i6 i7 i8 hm9
      refine s_iload_n kx_223_4 rfl ?_
      refine s_if_eq (t := 20) kx_223_5 (by decide) (fun hc11 => ?_) (fun hc11 => ?_)
      · refine s_iload_n kx_223_20 rfl ?_
        exact s_iret kx_223_21 (Or.inl kq_223) ⟨_, rfl, rfl, trivial⟩
      · refine r_iincR kx_223_8 rfl km_223_1 (fun v12 v12a v12b => ?_)
        refine s_iload_n kx_223_11 rfl ?_
        refine s_iload_n kx_223_12 rfl ?_
        refine s_iconst (v := 1) kx_223_13 (by decide) ?_
        refine r_sub kx_223_14 ⟨by omega, by omega⟩ ?_
        refine r_iandM kx_223_15 (by omega) (by omega) (fun v13 v13a v13b => ?_)
        refine s_istore_n kx_223_16 km_223_2 rfl ?_
        refine s_goto (t := 4) kx_223_17 (by decide) ?_
        exact cP.wk (lS1 rfl (lS1 rfl lS0)) (ih10 v12 v13 (by omega) (by omega) (by omega) (by omega) (by omega))
  exact cP.wk (lS1 rfl (lS1 rfl lS0)) (key3 _ 0 set (by omega) (by omega) (by omega) (by omega) (Nat.lt_succ_self _))
theorem kx_279_0 : x_code k_P 279 0 = some (.iconst 0, 1) := by decide +kernel
theorem kx_279_1 : x_code k_P 279 1 = some (.istore_n 3, 1) := by decide +kernel
theorem km_279_3 : 3 < x_maxL k_P 279 := by decide +kernel
theorem kx_279_2 : x_code k_P 279 2 = some (.iconst 0, 1) := by decide +kernel
theorem kx_279_3 : x_code k_P 279 3 = some (.istore 4, 2) := by decide +kernel
theorem km_279_4 : 4 < x_maxL k_P 279 := by decide +kernel
theorem kx_279_5 : x_code k_P 279 5 = some (.iload 4, 2) := by decide +kernel
theorem kx_279_7 : x_code k_P 279 7 = some (.aload_n 0, 1) := by decide +kernel
theorem kx_279_8 : x_code k_P 279 8 = some (.getfield 69, 3) := by decide +kernel
theorem kp_279_69 : x_pool k_P 279 69 = (1, 12, 19) := by decide +kernel
theorem kx_279_11 : x_code k_P 279 11 = some (.aload_n 0, 1) := by decide +kernel
theorem kx_279_12 : x_code k_P 279 12 = some (.getfield 54, 3) := by decide +kernel
theorem kp_279_54 : x_pool k_P 279 54 = (1, 12, 14) := by decide +kernel
theorem kx_279_15 : x_code k_P 279 15 = some (.iaload, 1) := by decide +kernel
theorem kx_279_16 : x_code k_P 279 16 = some (.if_icmp .ge 111, 3) := by decide +kernel
theorem kx_279_127 : x_code k_P 279 127 = some (.iload_n 3, 1) := by decide +kernel
theorem kx_279_128 : x_code k_P 279 128 = some (.aload_n 0, 1) := by decide +kernel
theorem kx_279_129 : x_code k_P 279 129 = some (.getfield 63, 3) := by decide +kernel
theorem kp_279_63 : x_pool k_P 279 63 = (1, 12, 17) := by decide +kernel
theorem kx_279_132 : x_code k_P 279 132 = some (.bipush 8, 2) := by decide +kernel
theorem kx_279_134 : x_code k_P 279 134 = some (.aload_n 0, 1) := by decide +kernel
theorem kx_279_135 : x_code k_P 279 135 = some (.getfield 54, 3) := by decide +kernel
theorem kx_279_138 : x_code k_P 279 138 = some (.imul, 1) := by decide +kernel
theorem kx_279_139 : x_code k_P 279 139 = some (.iload_n 1, 1) := by decide +kernel
theorem kx_279_140 : x_code k_P 279 140 = some (.iadd, 1) := by decide +kernel
theorem kx_279_141 : x_code k_P 279 141 = some (.iaload, 1) := by decide +kernel
theorem kx_279_142 : x_code k_P 279 142 = some (.if_icmp .gt 7, 3) := by decide +kernel
theorem kx_279_149 : x_code k_P 279 149 = some (.iconst 0, 1) := by decide +kernel
theorem kx_279_150 : x_code k_P 279 150 = some (.ireturn, 1) := by decide +kernel
theorem kq_279 : x_retk k_P 279 = 2 := by decide +kernel
theorem kx_279_145 : x_code k_P 279 145 = some (.iconst 1, 1) := by decide +kernel
theorem kx_279_146 : x_code k_P 279 146 = some (.goto 4, 3) := by decide +kernel
theorem kx_279_19 : x_code k_P 279 19 = some (.iload_n 2, 1) := by decide +kernel
theorem kx_279_20 : x_code k_P 279 20 = some (.iload 4, 2) := by decide +kernel
theorem kx_279_22 : x_code k_P 279 22 = some (.invokestatic 585, 3) := by decide +kernel
theorem kp_279_585 : x_pool k_P 279 585 = (6, 222, 2) := by decide +kernel
theorem kx_279_25 : x_code k_P 279 25 = some (.istore 5, 2) := by decide +kernel
theorem km_279_5 : 5 < x_maxL k_P 279 := by decide +kernel
theorem kx_279_27 : x_code k_P 279 27 = some (.iload_n 3, 1) := by decide +kernel
theorem kx_279_28 : x_code k_P 279 28 = some (.iload 5, 2) := by decide +kernel
theorem kx_279_30 : x_code k_P 279 30 = some (.ifCond .ne 14, 3) := by decide +kernel
theorem kx_279_44 : x_code k_P 279 44 = some (.aload_n 0, 1) := by decide +kernel
theorem kx_279_45 : x_code k_P 279 45 = some (.iload 4, 2) := by decide +kernel
theorem kx_279_47 : x_code k_P 279 47 = some (.invokevirtual 484, 3) := by decide +kernel
theorem kp_279_484 : x_pool k_P 279 484 = (2, 237, 1) := by decide +kernel
theorem kx_279_50 : x_code k_P 279 50 = some (.goto 4, 3) := by decide +kernel
theorem kx_279_33 : x_code k_P 279 33 = some (.aload_n 0, 1) := by decide +kernel
theorem kx_279_34 : x_code k_P 279 34 = some (.getfield 162, 3) := by decide +kernel
theorem kp_279_162 : x_pool k_P 279 162 = (1, 12, 49) := by decide +kernel
theorem kx_279_37 : x_code k_P 279 37 = some (.iload 4, 2) := by decide +kernel
theorem kx_279_39 : x_code k_P 279 39 = some (.iaload, 1) := by decide +kernel
theorem kx_279_40 : x_code k_P 279 40 = some (.iload_n 1, 1) := by decide +kernel
theorem kx_279_41 : x_code k_P 279 41 = some (.if_icmp .ne 12, 3) := by decide +kernel
theorem kx_279_53 : x_code k_P 279 53 = some (.iconst 0, 1) := by decide +kernel
theorem kx_279_54 : x_code k_P 279 54 = some (.iadd, 1) := by decide +kernel
theorem kx_279_55 : x_code k_P 279 55 = some (.istore_n 3, 1) := by decide +kernel
theorem kx_279_56 : x_code k_P 279 56 = some (.iload 5, 2) := by decide +kernel
theorem kx_279_58 : x_code k_P 279 58 = some (.ifCond .ne 6, 3) := by decide +kernel
theorem kx_279_64 : x_code k_P 279 64 = some (.aload_n 0, 1) := by decide +kernel
theorem kx_279_65 : x_code k_P 279 65 = some (.getfield 165, 3) := by decide +kernel
theorem kp_279_165 : x_pool k_P 279 165 = (1, 12, 50) := by decide +kernel
theorem kx_279_68 : x_code k_P 279 68 = some (.iload 4, 2) := by decide +kernel
theorem kx_279_70 : x_code k_P 279 70 = some (.iaload, 1) := by decide +kernel
theorem kx_279_71 : x_code k_P 279 71 = some (.iconst 1, 1) := by decide +kernel
theorem kx_279_72 : x_code k_P 279 72 = some (.if_icmp .eq 47, 3) := by decide +kernel
theorem kx_279_119 : x_code k_P 279 119 = some (.iconst 0, 1) := by decide +kernel
theorem kx_279_120 : x_code k_P 279 120 = some (.ireturn, 1) := by decide +kernel
theorem kx_279_75 : x_code k_P 279 75 = some (.aload_n 0, 1) := by decide +kernel
theorem kx_279_76 : x_code k_P 279 76 = some (.getfield 162, 3) := by decide +kernel
theorem kx_279_79 : x_code k_P 279 79 = some (.iload 4, 2) := by decide +kernel
theorem kx_279_81 : x_code k_P 279 81 = some (.iaload, 1) := by decide +kernel
theorem kx_279_82 : x_code k_P 279 82 = some (.iload_n 1, 1) := by decide +kernel
theorem kx_279_83 : x_code k_P 279 83 = some (.if_icmp .eq 13, 3) := by decide +kernel
theorem kx_279_96 : x_code k_P 279 96 = some (.aload_n 0, 1) := by decide +kernel
theorem kx_279_97 : x_code k_P 279 97 = some (.iload 4, 2) := by decide +kernel
theorem kx_279_99 : x_code k_P 279 99 = some (.invokevirtual 487, 3) := by decide +kernel
theorem kp_279_487 : x_pool k_P 279 487 = (2, 238, 1) := by decide +kernel
theorem kx_279_102 : x_code k_P 279 102 = some (.iconst (-1), 1) := by decide +kernel
theorem kx_279_103 : x_code k_P 279 103 = some (.if_icmp .eq 18, 3) := by decide +kernel
theorem kx_279_121 : x_code k_P 279 121 = some (.iinc 4 1, 3) := by decide +kernel
theorem kx_279_124 : x_code k_P 279 124 = some (.goto (-119), 3) := by decide +kernel
theorem kx_279_106 : x_code k_P 279 106 = some (.iload_n 2, 1) := by decide +kernel
theorem kx_279_107 : x_code k_P 279 107 = some (.aload_n 0, 1) := by decide +kernel
theorem kx_279_108 : x_code k_P 279 108 = some (.iload 4, 2) := by decide +kernel
theorem kx_279_110 : x_code k_P 279 110 = some (.invokevirtual 487, 3) := by decide +kernel
theorem kx_279_113 : x_code k_P 279 113 = some (.invokestatic 585, 3) := by decide +kernel
theorem kx_279_116 : x_code k_P 279 116 = some (.ifCond .ne 5, 3) := by decide +kernel
theorem kx_279_86 : x_code k_P 279 86 = some (.aload_n 0, 1) := by decide +kernel
theorem kx_279_87 : x_code k_P 279 87 = some (.iload 4, 2) := by decide +kernel
theorem kx_279_89 : x_code k_P 279 89 = some (.iload_n 1, 1) := by decide +kernel
theorem kx_279_90 : x_code k_P 279 90 = some (.invokevirtual 493, 3) := by decide +kernel
theorem kp_279_493 : x_pool k_P 279 493 = (2, 241, 2) := by decide +kernel
theorem kx_279_93 : x_code k_P 279 93 = some (.ifCond .eq 26, 3) := by decide +kernel
theorem kx_279_61 : x_code k_P 279 61 = some (.goto 60, 3) := by decide +kernel
theorem m_279 {xs : Nat → Int} {Ln d : Nat} {T : List cK} {M : cM} (hT : TT T) (hI : Rng M) {r set : Int} (p0 : 0 ≤ r ∧ r ≤ 7) : cC k_P xs Ln (d + 3) 279 [rf 63, (0, r), (0, set)] (T, M) (qF T M 0 (fun v => 0 ≤ v ∧ v ≤ 1)) := by
  show cP k_P xs Ln (d + 3) 279 0 [(0, rf 63), (1, (0, r)), (2, (0, set))] [] (T, M) _
  refine s_iconst (v := 0) kx_279_0 (by decide) ?_
  refine s_istore_n kx_279_1 km_279_3 rfl ?_
  refine s_iconst (v := 0) kx_279_2 (by decide) ?_
  refine s_istore kx_279_3 km_279_4 rfl ?_
  have key3 : ∀ n4 : Nat, ∀ (x3_1 x4_2 : Int), (0 ≤ x4_2) → (2147483647 - x4_2).toNat < n4 → cP k_P xs Ln (d + 3) 279 5 [(0, rf 63), (1, (0, r)), (2, (0, set)), (3, (0, x3_1)), (4, (0, x4_2))] [] (T, M) (qF T M 0 (fun v => 0 ≤ v ∧ v ≤ 1)) := by
    intro n4
    induction n4 with
    | zero => intro x3_1 x4_2 i5 hm6; exact absurd hm6 (Nat.not_lt_zero _)
    | succ n4 ih7 =>
      intro x3_1 x4_2 i5 hm6
      refine s_iload kx_279_5 rfl ?_
      refine s_aload_n kx_279_7 rfl ?_
      refine r_getR (k := 63) (f := 19) (k2 := 69) kx_279_8 kp_279_69 (tk_63 hT) kf_12_19 (by decide) (rq_63_19 hI) ?_
      refine s_aload_n kx_279_11 rfl ?_
      refine r_getI (k := 63) (f := 14) kx_279_12 kp_279_54 (tk_63 hT) kf_12_14 (fun _ => rfl) (rg_63_14 hI) (fun v8 v8e v8a v8b => ?_)
      refine r_ald (k := 69) kx_279_15 (tk_69 hT) ⟨by omega, by omega⟩ (rg_69 hI) (fun v9 v9e v9a v9b => ?_)
      refine s_icmp_ge (t := 127) kx_279_16 (by decide) (fun hc10 => ?_) (fun hc10 => ?_)
      · refine s_iload_n kx_279_127 rfl ?_
        refine s_aload_n kx_279_128 rfl ?_
        refine r_getR (k := 63) (f := 17) (k2 := 67) kx_279_129 kp_279_63 (tk_63 hT) kf_12_17 (by decide) (rq_63_17 hI) ?_
        refine s_bipush (v := 8) kx_279_132 (by decide) ?_
        refine s_aload_n kx_279_134 rfl ?_
        refine r_getK (k := 63) (f := 14) kx_279_135 kp_279_54 (tk_63 hT) kf_12_14 (fun _ => rfl) v8e ?_
        refine r_mul kx_279_138 ⟨by omega, by omega⟩ ?_
        refine s_iload_n kx_279_139 rfl ?_
        refine r_add kx_279_140 ⟨by omega, by omega⟩ ?_
        refine r_aldU (k := 67) kx_279_141 (tk_67 hT) ⟨by omega, by omega⟩ (fun v11 v11e => ?_)
        refine s_icmp_gt (t := 149) kx_279_142 (by decide) (fun hc12 => ?_) (fun hc12 => ?_)
        · refine s_iconst (v := 0) kx_279_149 (by decide) ?_
          exact s_iret kx_279_150 (Or.inr ⟨kq_279, by omega⟩) ⟨_, rfl, rfl, (by omega)⟩
        · refine s_iconst (v := 1) kx_279_145 (by decide) ?_
          refine s_goto (t := 150) kx_279_146 (by decide) ?_
          exact s_iret kx_279_150 (Or.inr ⟨kq_279, by omega⟩) ⟨_, rfl, rfl, (by omega)⟩
      · refine s_iload_n kx_279_19 rfl ?_
        refine s_iload kx_279_20 rfl ?_
        refine s_callS2 (s1 := 2) (s2 := 0) (as := [(0, x4_2), (0, set)]) (rest := []) kx_279_22 kp_279_585 rfl kcl_222 rfl rfl (by decide) (m_222 (d := d + 2) (set := set) (k := x4_2) hT hI) (kF (fun v13 v13p => ?_))
        refine s_istore kx_279_25 km_279_5 rfl ?_
        refine s_iload_n kx_279_27 rfl ?_
        refine s_iload kx_279_28 rfl ?_
        have jn22 : ∀ (y21 : Int), cP k_P xs Ln (d + 3) 279 54 [(0, rf 63), (1, (0, r)), (2, (0, set)), (4, (0, x4_2)), (5, (0, v13))] [(0, y21), (0, x3_1)] (T, M) (qF T M 0 (fun v => 0 ≤ v ∧ v ≤ 1)) := by
          intro y21
          refine r_iaddR kx_279_54 (fun v23 v23a v23b => ?_)
          refine s_istore_n kx_279_55 km_279_3 rfl ?_
          refine s_iload kx_279_56 rfl ?_
          refine s_if_ne (t := 64) kx_279_58 (by decide) (fun hc24 => ?_) (fun hc24 => ?_)
          · refine s_aload_n kx_279_64 rfl ?_
            refine r_getR (k := 63) (f := 50) (k2 := 94) kx_279_65 kp_279_165 (tk_63 hT) kf_12_50 (by decide) (rq_63_50 hI) ?_
            refine s_iload kx_279_68 rfl ?_
            refine r_aldU (k := 94) kx_279_70 (tk_94 hT) ⟨by omega, by omega⟩ (fun v25 v25e => ?_)
            refine s_iconst (v := 1) kx_279_71 (by decide) ?_
            refine s_icmp_eq (t := 119) kx_279_72 (by decide) (fun hc26 => ?_) (fun hc26 => ?_)
            · refine s_iconst (v := 0) kx_279_119 (by decide) ?_
              exact s_iret kx_279_120 (Or.inr ⟨kq_279, by omega⟩) ⟨_, rfl, rfl, (by omega)⟩
            · refine s_aload_n kx_279_75 rfl ?_
              refine r_getR (k := 63) (f := 49) (k2 := 93) kx_279_76 kp_279_162 (tk_63 hT) kf_12_49 (by decide) (rq_63_49 hI) ?_
              refine s_iload kx_279_79 rfl ?_
              refine r_ald (k := 93) kx_279_81 (tk_93 hT) ⟨by omega, by omega⟩ (rg_93 hI (by omega)) (fun v27 v27e v27a v27b => ?_)
              refine s_iload_n kx_279_82 rfl ?_
              refine s_icmp_eq (t := 96) kx_279_83 (by decide) (fun hc28 => ?_) (fun hc28 => ?_)
              · refine s_aload_n kx_279_96 rfl ?_
                refine s_iload kx_279_97 rfl ?_
                refine s_callV2 (k := 63) (s1 := 2) (s2 := 0) (as := [(0, x4_2)]) (rest := []) kx_279_99 kp_279_487 (Or.inl rfl) rfl (tk_63 hT) ki_238 kcl_238 rfl rfl (by decide) (m_238 (d := d + 2) (p := x4_2) hT hI (by omega)) (kF (fun v29 v29p => ?_))
                refine s_iconst (v := (-1)) kx_279_102 (by decide) ?_
                refine s_icmp_eq (t := 121) kx_279_103 (by decide) (fun hc30 => ?_) (fun hc30 => ?_)
                · refine r_iinc kx_279_121 rfl km_279_4 (by decide) ⟨by omega, by omega⟩ rfl ?_
                  refine s_goto (t := 5) kx_279_124 (by decide) ?_
                  exact cP.wk (lS1 rfl (lS1 rfl (lS1 rfl (lS1 rfl (lS1 rfl lS0))))) (ih7 v23 (x4_2 + 1) (by omega) (by omega))
                · refine s_iload_n kx_279_106 rfl ?_
                  refine s_aload_n kx_279_107 rfl ?_
                  refine s_iload kx_279_108 rfl ?_
                  refine s_callV2 (k := 63) (s1 := 2) (s2 := 1) (as := [(0, x4_2)]) (rest := [(0, set)]) kx_279_110 kp_279_487 (Or.inl rfl) rfl (tk_63 hT) ki_238 kcl_238 rfl rfl (by decide) (m_238 (d := d + 2) (p := x4_2) hT hI (by omega)) (kF (fun v31 v31p => ?_))
                  refine s_callS2 (s1 := 2) (s2 := 0) (as := [(0, v31), (0, set)]) (rest := []) kx_279_113 kp_279_585 rfl kcl_222 rfl rfl (by decide) (m_222 (d := d + 2) (set := set) (k := v31) hT hI) (kF (fun v32 v32p => ?_))
                  refine s_if_ne (t := 121) kx_279_116 (by decide) (fun hc33 => ?_) (fun hc33 => ?_)
                  · refine r_iinc kx_279_121 rfl km_279_4 (by decide) ⟨by omega, by omega⟩ rfl ?_
                    refine s_goto (t := 5) kx_279_124 (by decide) ?_
                    exact cP.wk (lS1 rfl (lS1 rfl (lS1 rfl (lS1 rfl (lS1 rfl lS0))))) (ih7 v23 (x4_2 + 1) (by omega) (by omega))
                  · refine s_iconst (v := 0) kx_279_119 (by decide) ?_
                    exact s_iret kx_279_120 (Or.inr ⟨kq_279, by omega⟩) ⟨_, rfl, rfl, (by omega)⟩
              · refine s_aload_n kx_279_86 rfl ?_
                refine s_iload kx_279_87 rfl ?_
                refine s_iload_n kx_279_89 rfl ?_
                refine s_callV2 (k := 63) (s1 := 3) (s2 := 0) (as := [(0, r), (0, x4_2)]) (rest := []) kx_279_90 kp_279_493 (Or.inl rfl) rfl (tk_63 hT) ki_241 kcl_241 rfl rfl (by decide) (m_241 (d := d) (c := x4_2) (r := r) hT hI (by omega) (by omega)) (kF (fun v34 v34p => ?_))
                refine s_if_eq (t := 119) kx_279_93 (by decide) (fun hc35 => ?_) (fun hc35 => ?_)
                · refine s_iconst (v := 0) kx_279_119 (by decide) ?_
                  exact s_iret kx_279_120 (Or.inr ⟨kq_279, by omega⟩) ⟨_, rfl, rfl, (by omega)⟩
                · refine s_aload_n kx_279_96 rfl ?_
                  refine s_iload kx_279_97 rfl ?_
                  refine s_callV2 (k := 63) (s1 := 2) (s2 := 0) (as := [(0, x4_2)]) (rest := []) kx_279_99 kp_279_487 (Or.inl rfl) rfl (tk_63 hT) ki_238 kcl_238 rfl rfl (by decide) (m_238 (d := d + 2) (p := x4_2) hT hI (by omega)) (kF (fun v36 v36p => ?_))
                  refine s_iconst (v := (-1)) kx_279_102 (by decide) ?_
                  refine s_icmp_eq (t := 121) kx_279_103 (by decide) (fun hc37 => ?_) (fun hc37 => ?_)
                  · refine r_iinc kx_279_121 rfl km_279_4 (by decide) ⟨by omega, by omega⟩ rfl ?_
                    refine s_goto (t := 5) kx_279_124 (by decide) ?_
                    exact cP.wk (lS1 rfl (lS1 rfl (lS1 rfl (lS1 rfl (lS1 rfl lS0))))) (ih7 v23 (x4_2 + 1) (by omega) (by omega))
                  · refine s_iload_n kx_279_106 rfl ?_
                    refine s_aload_n kx_279_107 rfl ?_
                    refine s_iload kx_279_108 rfl ?_
                    refine s_callV2 (k := 63) (s1 := 2) (s2 := 1) (as := [(0, x4_2)]) (rest := [(0, set)]) kx_279_110 kp_279_487 (Or.inl rfl) rfl (tk_63 hT) ki_238 kcl_238 rfl rfl (by decide) (m_238 (d := d + 2) (p := x4_2) hT hI (by omega)) (kF (fun v38 v38p => ?_))
                    refine s_callS2 (s1 := 2) (s2 := 0) (as := [(0, v38), (0, set)]) (rest := []) kx_279_113 kp_279_585 rfl kcl_222 rfl rfl (by decide) (m_222 (d := d + 2) (set := set) (k := v38) hT hI) (kF (fun v39 v39p => ?_))
                    refine s_if_ne (t := 121) kx_279_116 (by decide) (fun hc40 => ?_) (fun hc40 => ?_)
                    · refine r_iinc kx_279_121 rfl km_279_4 (by decide) ⟨by omega, by omega⟩ rfl ?_
                      refine s_goto (t := 5) kx_279_124 (by decide) ?_
                      exact cP.wk (lS1 rfl (lS1 rfl (lS1 rfl (lS1 rfl (lS1 rfl lS0))))) (ih7 v23 (x4_2 + 1) (by omega) (by omega))
                    · refine s_iconst (v := 0) kx_279_119 (by decide) ?_
                      exact s_iret kx_279_120 (Or.inr ⟨kq_279, by omega⟩) ⟨_, rfl, rfl, (by omega)⟩
          · refine s_goto (t := 121) kx_279_61 (by decide) ?_
            refine r_iinc kx_279_121 rfl km_279_4 (by decide) ⟨by omega, by omega⟩ rfl ?_
            refine s_goto (t := 5) kx_279_124 (by decide) ?_
            exact cP.wk (lS1 rfl (lS1 rfl (lS1 rfl (lS1 rfl (lS1 rfl lS0))))) (ih7 v23 (x4_2 + 1) (by omega) (by omega))
        refine s_if_ne (t := 44) kx_279_30 (by decide) (fun hc14 => ?_) (fun hc14 => ?_)
        · refine s_aload_n kx_279_44 rfl ?_
          refine s_iload kx_279_45 rfl ?_
          refine s_callV2 (k := 63) (s1 := 2) (s2 := 1) (as := [(0, x4_2)]) (rest := [(0, x3_1)]) kx_279_47 kp_279_484 (Or.inl rfl) rfl (tk_63 hT) ki_237 kcl_237 rfl rfl (by decide) (m_237 (d := d + 2) (c := x4_2) hT hI (by omega)) (kF (fun v16 v16p => ?_))
          refine s_goto (t := 54) kx_279_50 (by decide) ?_
          exact cP.wk (lS1 rfl (lS1 rfl (lS1 rfl (lS1 rfl (lS1 rfl lS0))))) (jn22 v16)
        · refine s_aload_n kx_279_33 rfl ?_
          refine r_getR (k := 63) (f := 49) (k2 := 93) kx_279_34 kp_279_162 (tk_63 hT) kf_12_49 (by decide) (rq_63_49 hI) ?_
          refine s_iload kx_279_37 rfl ?_
          refine r_ald (k := 93) kx_279_39 (tk_93 hT) ⟨by omega, by omega⟩ (rg_93 hI (by omega)) (fun v18 v18e v18a v18b => ?_)
          refine s_iload_n kx_279_40 rfl ?_
          refine s_icmp_ne (t := 53) kx_279_41 (by decide) (fun hc19 => ?_) (fun hc19 => ?_)
          · refine s_iconst (v := 0) kx_279_53 (by decide) ?_
            exact cP.wk (lS1 rfl (lS1 rfl (lS1 rfl (lS1 rfl (lS1 rfl lS0))))) (jn22 0)
          · refine s_aload_n kx_279_44 rfl ?_
            refine s_iload kx_279_45 rfl ?_
            refine s_callV2 (k := 63) (s1 := 2) (s2 := 1) (as := [(0, x4_2)]) (rest := [(0, x3_1)]) kx_279_47 kp_279_484 (Or.inl rfl) rfl (tk_63 hT) ki_237 kcl_237 rfl rfl (by decide) (m_237 (d := d + 2) (c := x4_2) hT hI (by omega)) (kF (fun v20 v20p => ?_))
            refine s_goto (t := 54) kx_279_50 (by decide) ?_
            exact cP.wk (lS1 rfl (lS1 rfl (lS1 rfl (lS1 rfl (lS1 rfl lS0))))) (jn22 v20)
  exact cP.wk (lS1 rfl (lS1 rfl (lS1 rfl (lS1 rfl (lS1 rfl lS0))))) (key3 _ 0 0 (by omega) (Nat.lt_succ_self _))
theorem kx_280_0 : x_code k_P 280 0 = some (.aload_n 0, 1) := by decide +kernel
theorem kx_280_1 : x_code k_P 280 1 = some (.iload_n 1, 1) := by decide +kernel
theorem kx_280_2 : x_code k_P 280 2 = some (.invokevirtual 508, 3) := by decide +kernel
theorem kp_280_508 : x_pool k_P 280 508 = (2, 220, 1) := by decide +kernel
theorem kx_280_5 : x_code k_P 280 5 = some (.ifCond .eq 24, 3) := by decide +kernel
theorem kx_280_29 : x_code k_P 280 29 = some (.iconst (-1), 1) := by decide +kernel
theorem kx_280_30 : x_code k_P 280 30 = some (.ireturn, 1) := by decide +kernel
theorem kq_280 : x_retk k_P 280 = 1 := by decide +kernel
theorem kx_280_8 : x_code k_P 280 8 = some (.iload_n 2, 1) := by decide +kernel
theorem kx_280_9 : x_code k_P 280 9 = some (.iconst 0, 1) := by decide +kernel
theorem kx_280_10 : x_code k_P 280 10 = some (.iconst 1, 1) := by decide +kernel
theorem kx_280_11 : x_code k_P 280 11 = some (.aload_n 0, 1) := by decide +kernel
theorem kx_280_12 : x_code k_P 280 12 = some (.getfield 69, 3) := by decide +kernel
theorem kp_280_69 : x_pool k_P 280 69 = (1, 12, 19) := by decide +kernel
theorem kx_280_15 : x_code k_P 280 15 = some (.aload_n 0, 1) := by decide +kernel
theorem kx_280_16 : x_code k_P 280 16 = some (.getfield 54, 3) := by decide +kernel
theorem kp_280_54 : x_pool k_P 280 54 = (1, 12, 14) := by decide +kernel
theorem kx_280_19 : x_code k_P 280 19 = some (.iaload, 1) := by decide +kernel
theorem kx_280_20 : x_code k_P 280 20 = some (.ishl, 1) := by decide +kernel
theorem kx_280_21 : x_code k_P 280 21 = some (.iconst 1, 1) := by decide +kernel
theorem kx_280_22 : x_code k_P 280 22 = some (.isub, 1) := by decide +kernel
theorem kx_280_23 : x_code k_P 280 23 = some (.invokestatic 345, 3) := by decide +kernel
theorem kp_280_345 : x_pool k_P 280 345 = (6, 172, 3) := by decide +kernel
theorem kx_280_26 : x_code k_P 280 26 = some (.ifCond .ne 5, 3) := by decide +kernel
theorem kx_280_31 : x_code k_P 280 31 = some (.iconst 0, 1) := by decide +kernel
theorem kx_280_32 : x_code k_P 280 32 = some (.istore_n 3, 1) := by decide +kernel
theorem km_280_3 : 3 < x_maxL k_P 280 := by decide +kernel
theorem kx_280_33 : x_code k_P 280 33 = some (.iconst 1, 1) := by decide +kernel
theorem kx_280_34 : x_code k_P 280 34 = some (.istore 4, 2) := by decide +kernel
theorem km_280_4 : 4 < x_maxL k_P 280 := by decide +kernel
theorem kx_280_36 : x_code k_P 280 36 = some (.iload 4, 2) := by decide +kernel
theorem kx_280_38 : x_code k_P 280 38 = some (.iconst 1, 1) := by decide +kernel
theorem kx_280_39 : x_code k_P 280 39 = some (.aload_n 0, 1) := by decide +kernel
theorem kx_280_40 : x_code k_P 280 40 = some (.getfield 69, 3) := by decide +kernel
theorem kx_280_43 : x_code k_P 280 43 = some (.aload_n 0, 1) := by decide +kernel
theorem kx_280_44 : x_code k_P 280 44 = some (.getfield 54, 3) := by decide +kernel
theorem kx_280_47 : x_code k_P 280 47 = some (.iaload, 1) := by decide +kernel
theorem kx_280_48 : x_code k_P 280 48 = some (.ishl, 1) := by decide +kernel
theorem kx_280_49 : x_code k_P 280 49 = some (.if_icmp .ge 43, 3) := by decide +kernel
theorem kx_280_92 : x_code k_P 280 92 = some (.iload_n 3, 1) := by decide +kernel
theorem kx_280_93 : x_code k_P 280 93 = some (.ireturn, 1) := by decide +kernel
theorem kx_280_52 : x_code k_P 280 52 = some (.iload 4, 2) := by decide +kernel
theorem kx_280_54 : x_code k_P 280 54 = some (.iload_n 2, 1) := by decide +kernel
theorem kx_280_55 : x_code k_P 280 55 = some (.iconst (-1), 1) := by decide +kernel
theorem kx_280_56 : x_code k_P 280 56 = some (.ixor, 1) := by decide +kernel
theorem kx_280_57 : x_code k_P 280 57 = some (.iand, 1) := by decide +kernel
theorem kx_280_58 : x_code k_P 280 58 = some (.ifCond .ne 28, 3) := by decide +kernel
theorem kx_280_86 : x_code k_P 280 86 = some (.iinc 4 1, 3) := by decide +kernel
theorem kx_280_89 : x_code k_P 280 89 = some (.goto (-53), 3) := by decide +kernel
theorem kx_280_61 : x_code k_P 280 61 = some (.iload 4, 2) := by decide +kernel
theorem kx_280_63 : x_code k_P 280 63 = some (.invokestatic 594, 3) := by decide +kernel
theorem kp_280_594 : x_pool k_P 280 594 = (6, 223, 1) := by decide +kernel
theorem kcl_223 : x_maxL k_P 223 ≤ 60 ∧ 1 ≤ x_maxL k_P 223 := by decide +kernel
theorem kx_280_66 : x_code k_P 280 66 = some (.iload_n 3, 1) := by decide +kernel
theorem kx_280_67 : x_code k_P 280 67 = some (.invokestatic 594, 3) := by decide +kernel
theorem kx_280_70 : x_code k_P 280 70 = some (.if_icmp .le 16, 3) := by decide +kernel
theorem kx_280_73 : x_code k_P 280 73 = some (.aload_n 0, 1) := by decide +kernel
theorem kx_280_74 : x_code k_P 280 74 = some (.iload_n 1, 1) := by decide +kernel
theorem kx_280_75 : x_code k_P 280 75 = some (.iload 4, 2) := by decide +kernel
theorem kx_280_77 : x_code k_P 280 77 = some (.invokevirtual 597, 3) := by decide +kernel
theorem kp_280_597 : x_pool k_P 280 597 = (2, 279, 2) := by decide +kernel
theorem ki_279 : x_mci k_P 279 = 12 := by decide +kernel
theorem kcl_279 : x_maxL k_P 279 ≤ 60 ∧ 3 ≤ x_maxL k_P 279 := by decide +kernel
theorem kx_280_80 : x_code k_P 280 80 = some (.ifCond .eq 6, 3) := by decide +kernel
theorem kx_280_83 : x_code k_P 280 83 = some (.iload 4, 2) := by decide +kernel
theorem kx_280_85 : x_code k_P 280 85 = some (.istore_n 3, 1) := by decide +kernel
theorem m_280 {xs : Nat → Int} {Ln d : Nat} {T : List cK} {M : cM} (hT : TT T) (hI : Rng M) {r people : Int} : cC k_P xs Ln (d + 4) 280 [rf 63, (0, r), (0, people)] (T, M) (qF T M 0 (fun v => True)) := by
  show cP k_P xs Ln (d + 4) 280 0 [(0, rf 63), (1, (0, r)), (2, (0, people))] [] (T, M) _
  refine s_aload_n kx_280_0 rfl ?_
  refine s_iload_n kx_280_1 rfl ?_
  refine s_callV2 (k := 63) (s1 := 2) (s2 := 0) (as := [(0, r)]) (rest := []) kx_280_2 kp_280_508 (Or.inl rfl) rfl (tk_63 hT) ki_220 kcl_220 rfl rfl (by decide) (m_220 (d := d + 3) (r := r) hT hI) (kF (fun v1 v1p => ?_))
  refine s_if_eq (t := 29) kx_280_5 (by decide) (fun hc2 => ?_) (fun hc2 => ?_)
  · replace v1p := v1p.resolve_left (by omega)
    refine s_iconst (v := (-1)) kx_280_29 (by decide) ?_
    exact s_iret kx_280_30 (Or.inl kq_280) ⟨_, rfl, rfl, trivial⟩
  · replace v1p := v1p.resolve_right (by omega)
    refine s_iload_n kx_280_8 rfl ?_
    refine s_iconst (v := 0) kx_280_9 (by decide) ?_
    refine s_iconst (v := 1) kx_280_10 (by decide) ?_
    refine s_aload_n kx_280_11 rfl ?_
    refine r_getR (k := 63) (f := 19) (k2 := 69) kx_280_12 kp_280_69 (tk_63 hT) kf_12_19 (by decide) (rq_63_19 hI) ?_
    refine s_aload_n kx_280_15 rfl ?_
    refine r_getI (k := 63) (f := 14) kx_280_16 kp_280_54 (tk_63 hT) kf_12_14 (fun _ => rfl) (rg_63_14 hI) (fun v3 v3e v3a v3b => ?_)
    refine r_ald (k := 69) kx_280_19 (tk_69 hT) ⟨by omega, by omega⟩ (rg_69 hI) (fun v4 v4e v4a v4b => ?_)
    refine r_ishlR kx_280_20 (fun v5 v5a v5b => ?_)
    refine s_iconst (v := 1) kx_280_21 (by decide) ?_
    refine r_isubR kx_280_22 (fun v6 v6a v6b => ?_)
    refine s_callS2 (s1 := 3) (s2 := 0) (as := [(0, v6), (0, 0), (0, people)]) (rest := []) kx_280_23 kp_280_345 rfl kcl_172 rfl rfl (by decide) (m_172 (d := d + 3) (v_ := people) (least := 0) (most := v6) hT hI) (kF (fun v7 v7p => ?_))
    refine s_if_ne (t := 31) kx_280_26 (by decide) (fun hc8 => ?_) (fun hc8 => ?_)
    · replace v7p := v7p.resolve_right (by omega)
      refine s_iconst (v := 0) kx_280_31 (by decide) ?_
      refine s_istore_n kx_280_32 km_280_3 rfl ?_
      refine s_iconst (v := 1) kx_280_33 (by decide) ?_
      refine s_istore kx_280_34 km_280_4 rfl ?_
      have key11 : ∀ n12 : Nat, ∀ (x3_9 x4_10 : Int), (0 ≤ x3_9) → (x3_9 ≤ 2147483647) → (1 ≤ x4_10) → (2147483647 - x4_10).toNat < n12 → cP k_P xs Ln (d + 4) 280 36 [(0, rf 63), (1, (0, r)), (2, (0, people)), (3, (0, x3_9)), (4, (0, x4_10))] [] (T, M) (qF T M 0 (fun v => True)) := by
        intro n12
        induction n12 with
        | zero => intro x3_9 x4_10 i13 i14 i15 hm16; exact absurd hm16 (Nat.not_lt_zero _)
        | succ n12 ih17 =>
          intro x3_9 x4_10 i13 i14 i15 hm16
          refine s_iload kx_280_36 rfl ?_
          refine s_iconst (v := 1) kx_280_38 (by decide) ?_
          refine s_aload_n kx_280_39 rfl ?_
          refine r_getR (k := 63) (f := 19) (k2 := 69) kx_280_40 kp_280_69 (tk_63 hT) kf_12_19 (by decide) (rq_63_19 hI) ?_
          refine s_aload_n kx_280_43 rfl ?_
          refine r_getK (k := 63) (f := 14) kx_280_44 kp_280_54 (tk_63 hT) kf_12_14 (fun _ => rfl) v3e ?_
          refine r_aldK (k := 69) kx_280_47 (tk_69 hT) ⟨by omega, by omega⟩ v4e ?_
          refine r_ishlR kx_280_48 (fun v18 v18a v18b => ?_)
          refine s_icmp_ge (t := 92) kx_280_49 (by decide) (fun hc19 => ?_) (fun hc19 => ?_)
          · refine s_iload_n kx_280_92 rfl ?_
            exact s_iret kx_280_93 (Or.inl kq_280) ⟨_, rfl, rfl, trivial⟩
          · refine s_iload kx_280_52 rfl ?_
            refine s_iload_n kx_280_54 rfl ?_
            refine s_iconst (v := (-1)) kx_280_55 (by decide) ?_
            refine r_ixorR kx_280_56 (fun v20 v20a v20b => ?_)
            refine r_iandR kx_280_57 (fun v21 v21a v21b => ?_)
            refine s_if_ne (t := 86) kx_280_58 (by decide) (fun hc22 => ?_) (fun hc22 => ?_)
            · refine r_iinc kx_280_86 rfl km_280_4 (by decide) ⟨by omega, by omega⟩ rfl ?_
              refine s_goto (t := 36) kx_280_89 (by decide) ?_
              exact cP.wk (lS1 rfl (lS1 rfl (lS1 rfl (lS1 rfl (lS1 rfl lS0))))) (ih17 x3_9 (x4_10 + 1) (by omega) (by omega) (by omega) (by omega))
            · refine s_iload kx_280_61 rfl ?_
              refine s_callS2 (s1 := 1) (s2 := 0) (as := [(0, x4_10)]) (rest := []) kx_280_63 kp_280_594 rfl kcl_223 rfl rfl (by decide) (m_223 (d := d + 3) (set := x4_10) hT hI (by omega)) (kF (fun v23 v23p => ?_))
              refine s_iload_n kx_280_66 rfl ?_
              refine s_callS2 (s1 := 1) (s2 := 1) (as := [(0, x3_9)]) (rest := [(0, v23)]) kx_280_67 kp_280_594 rfl kcl_223 rfl rfl (by decide) (m_223 (d := d + 3) (set := x3_9) hT hI (by omega)) (kF (fun v24 v24p => ?_))
              refine s_icmp_le (t := 86) kx_280_70 (by decide) (fun hc25 => ?_) (fun hc25 => ?_)
              · refine r_iinc kx_280_86 rfl km_280_4 (by decide) ⟨by omega, by omega⟩ rfl ?_
                refine s_goto (t := 36) kx_280_89 (by decide) ?_
                exact cP.wk (lS1 rfl (lS1 rfl (lS1 rfl (lS1 rfl (lS1 rfl lS0))))) (ih17 x3_9 (x4_10 + 1) (by omega) (by omega) (by omega) (by omega))
              · refine s_aload_n kx_280_73 rfl ?_
                refine s_iload_n kx_280_74 rfl ?_
                refine s_iload kx_280_75 rfl ?_
                refine s_callV2 (k := 63) (s1 := 3) (s2 := 0) (as := [(0, x4_10), (0, r)]) (rest := []) kx_280_77 kp_280_597 (Or.inl rfl) rfl (tk_63 hT) ki_279 kcl_279 rfl rfl (by decide) (m_279 (d := d) (r := r) (set := x4_10) hT hI (by omega)) (kF (fun v26 v26p => ?_))
                refine s_if_eq (t := 86) kx_280_80 (by decide) (fun hc27 => ?_) (fun hc27 => ?_)
                · refine r_iinc kx_280_86 rfl km_280_4 (by decide) ⟨by omega, by omega⟩ rfl ?_
                  refine s_goto (t := 36) kx_280_89 (by decide) ?_
                  exact cP.wk (lS1 rfl (lS1 rfl (lS1 rfl (lS1 rfl (lS1 rfl lS0))))) (ih17 x3_9 (x4_10 + 1) (by omega) (by omega) (by omega) (by omega))
                · refine s_iload kx_280_83 rfl ?_
                  refine s_istore_n kx_280_85 km_280_3 rfl ?_
                  refine r_iinc kx_280_86 rfl km_280_4 (by decide) ⟨by omega, by omega⟩ rfl ?_
                  refine s_goto (t := 36) kx_280_89 (by decide) ?_
                  exact cP.wk (lS1 rfl (lS1 rfl (lS1 rfl (lS1 rfl (lS1 rfl lS0))))) (ih17 x4_10 (x4_10 + 1) (by omega) (by omega) (by omega) (by omega))
      exact cP.wk (lS1 rfl (lS1 rfl (lS1 rfl (lS1 rfl (lS1 rfl lS0))))) (key11 _ 0 1 (by omega) (by omega) (by omega) (Nat.lt_succ_self _))
    · replace v7p := v7p.resolve_left (by omega)
      refine s_iconst (v := (-1)) kx_280_29 (by decide) ?_
      exact s_iret kx_280_30 (Or.inl kq_280) ⟨_, rfl, rfl, trivial⟩
theorem kx_247_0 : x_code k_P 247 0 = some (.iload_n 1, 1) := by decide +kernel
theorem kx_247_1 : x_code k_P 247 1 = some (.iconst 0, 1) := by decide +kernel
theorem kx_247_2 : x_code k_P 247 2 = some (.iconst 1, 1) := by decide +kernel
theorem kx_247_3 : x_code k_P 247 3 = some (.invokestatic 345, 3) := by decide +kernel
theorem kp_247_345 : x_pool k_P 247 345 = (6, 172, 3) := by decide +kernel
theorem kx_247_6 : x_code k_P 247 6 = some (.ifCond .eq 31, 3) := by decide +kernel
theorem kx_247_37 : x_code k_P 247 37 = some (.iconst (-1), 1) := by decide +kernel
theorem kx_247_38 : x_code k_P 247 38 = some (.ireturn, 1) := by decide +kernel
theorem kq_247 : x_retk k_P 247 = 1 := by decide +kernel
theorem kx_247_9 : x_code k_P 247 9 = some (.iload_n 2, 1) := by decide +kernel
theorem kx_247_10 : x_code k_P 247 10 = some (.iconst 0, 1) := by decide +kernel
theorem kx_247_11 : x_code k_P 247 11 = some (.aload_n 0, 1) := by decide +kernel
theorem kx_247_12 : x_code k_P 247 12 = some (.aload_n 0, 1) := by decide +kernel
theorem kx_247_13 : x_code k_P 247 13 = some (.getfield 54, 3) := by decide +kernel
theorem kp_247_54 : x_pool k_P 247 54 = (1, 12, 14) := by decide +kernel
theorem kx_247_16 : x_code k_P 247 16 = some (.iload_n 1, 1) := by decide +kernel
theorem kx_247_17 : x_code k_P 247 17 = some (.invokevirtual 337, 3) := by decide +kernel
theorem kp_247_337 : x_pool k_P 247 337 = (2, 185, 2) := by decide +kernel
theorem ki_185 : x_mci k_P 185 = 12 := by decide +kernel
theorem kcl_185 : x_maxL k_P 185 ≤ 60 ∧ 3 ≤ x_maxL k_P 185 := by decide +kernel
theorem kx_247_20 : x_code k_P 247 20 = some (.iconst 1, 1) := by decide +kernel
theorem kx_247_21 : x_code k_P 247 21 = some (.isub, 1) := by decide +kernel
theorem kx_247_22 : x_code k_P 247 22 = some (.invokestatic 345, 3) := by decide +kernel
theorem kx_247_25 : x_code k_P 247 25 = some (.ifCond .eq 12, 3) := by decide +kernel
theorem kx_247_28 : x_code k_P 247 28 = some (.iload_n 3, 1) := by decide +kernel
theorem kx_247_29 : x_code k_P 247 29 = some (.iconst 0, 1) := by decide +kernel
theorem kx_247_30 : x_code k_P 247 30 = some (.iconst 5, 1) := by decide +kernel
theorem kx_247_31 : x_code k_P 247 31 = some (.invokestatic 345, 3) := by decide +kernel
theorem kx_247_34 : x_code k_P 247 34 = some (.ifCond .ne 5, 3) := by decide +kernel
theorem kx_247_39 : x_code k_P 247 39 = some (.aload_n 0, 1) := by decide +kernel
theorem kx_247_40 : x_code k_P 247 40 = some (.aload_n 0, 1) := by decide +kernel
theorem kx_247_41 : x_code k_P 247 41 = some (.getfield 54, 3) := by decide +kernel
theorem kx_247_44 : x_code k_P 247 44 = some (.iload_n 1, 1) := by decide +kernel
theorem kx_247_45 : x_code k_P 247 45 = some (.iload_n 2, 1) := by decide +kernel
theorem kx_247_46 : x_code k_P 247 46 = some (.invokevirtual 341, 3) := by decide +kernel
theorem kp_247_341 : x_pool k_P 247 341 = (2, 186, 3) := by decide +kernel
theorem ki_186 : x_mci k_P 186 = 12 := by decide +kernel
theorem kcl_186 : x_maxL k_P 186 ≤ 60 ∧ 4 ≤ x_maxL k_P 186 := by decide +kernel
theorem kx_247_49 : x_code k_P 247 49 = some (.lstore 4, 2) := by decide +kernel
theorem km_247_5 : 5 < x_maxL k_P 247 := by decide +kernel
theorem kx_247_51 : x_code k_P 247 51 = some (.iconst 0, 1) := by decide +kernel
theorem kx_247_52 : x_code k_P 247 52 = some (.istore 6, 2) := by decide +kernel
theorem km_247_6 : 6 < x_maxL k_P 247 := by decide +kernel
theorem kx_247_54 : x_code k_P 247 54 = some (.lload 4, 2) := by decide +kernel
theorem kx_247_56 : x_code k_P 247 56 = some (.lstore 7, 2) := by decide +kernel
theorem km_247_8 : 8 < x_maxL k_P 247 := by decide +kernel
theorem kx_247_58 : x_code k_P 247 58 = some (.lload 7, 2) := by decide +kernel
theorem kx_247_60 : x_code k_P 247 60 = some (.lconst 0, 1) := by decide +kernel
theorem kx_247_61 : x_code k_P 247 61 = some (.lcmp, 1) := by decide +kernel
theorem kx_247_62 : x_code k_P 247 62 = some (.ifCond .le 16, 3) := by decide +kernel
theorem kx_247_78 : x_code k_P 247 78 = some (.iload_n 3, 1) := by decide +kernel
theorem kx_247_79 : x_code k_P 247 79 = some (.iload 6, 2) := by decide +kernel
theorem kx_247_81 : x_code k_P 247 81 = some (.if_icmp .lt 7, 3) := by decide +kernel
theorem kx_247_88 : x_code k_P 247 88 = some (.lload 4, 2) := by decide +kernel
theorem kx_247_90 : x_code k_P 247 90 = some (.bipush 8, 2) := by decide +kernel
theorem kx_247_92 : x_code k_P 247 92 = some (.iload 6, 2) := by decide +kernel
theorem kx_247_94 : x_code k_P 247 94 = some (.iconst 1, 1) := by decide +kernel
theorem kx_247_95 : x_code k_P 247 95 = some (.isub, 1) := by decide +kernel
theorem kx_247_96 : x_code k_P 247 96 = some (.iload_n 3, 1) := by decide +kernel
theorem kx_247_97 : x_code k_P 247 97 = some (.isub, 1) := by decide +kernel
theorem kx_247_98 : x_code k_P 247 98 = some (.imul, 1) := by decide +kernel
theorem kx_247_99 : x_code k_P 247 99 = some (.lshr, 1) := by decide +kernel
theorem kx_247_100 : x_code k_P 247 100 = some (.ldc2_w 506, 3) := by decide +kernel
theorem kp_247_506 : x_pool k_P 247 506 = (8, 0, 255) := by decide +kernel
theorem kx_247_103 : x_code k_P 247 103 = some (.land, 1) := by decide +kernel
theorem kx_247_104 : x_code k_P 247 104 = some (.l2i, 1) := by decide +kernel
theorem kx_247_105 : x_code k_P 247 105 = some (.bipush 97, 2) := by decide +kernel
theorem kx_247_107 : x_code k_P 247 107 = some (.isub, 1) := by decide +kernel
theorem kx_247_108 : x_code k_P 247 108 = some (.iconst 1, 1) := by decide +kernel
theorem kx_247_109 : x_code k_P 247 109 = some (.iadd, 1) := by decide +kernel
theorem kx_247_110 : x_code k_P 247 110 = some (.ireturn, 1) := by decide +kernel
theorem kx_247_84 : x_code k_P 247 84 = some (.iconst 0, 1) := by decide +kernel
theorem kx_247_85 : x_code k_P 247 85 = some (.goto 25, 3) := by decide +kernel
theorem kx_247_65 : x_code k_P 247 65 = some (.iinc 6 1, 3) := by decide +kernel
theorem kx_247_68 : x_code k_P 247 68 = some (.lload 7, 2) := by decide +kernel
theorem kx_247_70 : x_code k_P 247 70 = some (.bipush 8, 2) := by decide +kernel
theorem kx_247_72 : x_code k_P 247 72 = some (.lshr, 1) := by decide +kernel
theorem kx_247_73 : x_code k_P 247 73 = some (.lstore 7, 2) := by decide +kernel
theorem kx_247_75 : x_code k_P 247 75 = some (.goto (-17), 3) := by decide +kernel
theorem m_247 {xs : Nat → Int} {Ln d : Nat} {T : List cK} {M : cM} (hT : TT T) (hI : Rng M) {of_ which k : Int} : cC k_P xs Ln (d + 1) 247 [rf 63, (0, of_), (0, which), (0, k)] (T, M) (qF T M 0 (fun v => True)) := by
  show cP k_P xs Ln (d + 1) 247 0 [(0, rf 63), (1, (0, of_)), (2, (0, which)), (3, (0, k))] [] (T, M) _
  refine s_iload_n kx_247_0 rfl ?_
  refine s_iconst (v := 0) kx_247_1 (by decide) ?_
  refine s_iconst (v := 1) kx_247_2 (by decide) ?_
  refine s_callS2 (s1 := 3) (s2 := 0) (as := [(0, 1), (0, 0), (0, of_)]) (rest := []) kx_247_3 kp_247_345 rfl kcl_172 rfl rfl (by decide) (m_172 (d := d) (v_ := of_) (least := 0) (most := 1) hT hI) (kF (fun v1 v1p => ?_))
  refine s_if_eq (t := 37) kx_247_6 (by decide) (fun hc2 => ?_) (fun hc2 => ?_)
  · replace v1p := v1p.resolve_left (by omega)
    refine s_iconst (v := (-1)) kx_247_37 (by decide) ?_
    exact s_iret kx_247_38 (Or.inl kq_247) ⟨_, rfl, rfl, trivial⟩
  · replace v1p := v1p.resolve_right (by omega)
    refine s_iload_n kx_247_9 rfl ?_
    refine s_iconst (v := 0) kx_247_10 (by decide) ?_
    refine s_aload_n kx_247_11 rfl ?_
    refine s_aload_n kx_247_12 rfl ?_
    refine r_getI (k := 63) (f := 14) kx_247_13 kp_247_54 (tk_63 hT) kf_12_14 (fun _ => rfl) (rg_63_14 hI) (fun v3 v3e v3a v3b => ?_)
    refine s_iload_n kx_247_16 rfl ?_
    refine s_callV2 (k := 63) (s1 := 3) (s2 := 2) (as := [(0, of_), (0, v3)]) (rest := [(0, 0), (0, which)]) kx_247_17 kp_247_337 (Or.inl rfl) rfl (tk_63 hT) ki_185 kcl_185 rfl rfl (by decide) (m_185 (d := d) (b := v3) (kind := of_) hT hI (by omega)) (kF (fun v4 v4p => ?_))
    refine s_iconst (v := 1) kx_247_20 (by decide) ?_
    refine r_sub kx_247_21 ⟨by omega, by omega⟩ ?_
    refine s_callS2 (s1 := 3) (s2 := 0) (as := [(0, (v4 - 1)), (0, 0), (0, which)]) (rest := []) kx_247_22 kp_247_345 rfl kcl_172 rfl rfl (by decide) (m_172 (d := d) (v_ := which) (least := 0) (most := (v4 - 1)) hT hI) (kF (fun v5 v5p => ?_))
    refine s_if_eq (t := 37) kx_247_25 (by decide) (fun hc6 => ?_) (fun hc6 => ?_)
    · replace v5p := v5p.resolve_left (by omega)
      refine s_iconst (v := (-1)) kx_247_37 (by decide) ?_
      exact s_iret kx_247_38 (Or.inl kq_247) ⟨_, rfl, rfl, trivial⟩
    · replace v5p := v5p.resolve_right (by omega)
      refine s_iload_n kx_247_28 rfl ?_
      refine s_iconst (v := 0) kx_247_29 (by decide) ?_
      refine s_iconst (v := 5) kx_247_30 (by decide) ?_
      refine s_callS2 (s1 := 3) (s2 := 0) (as := [(0, 5), (0, 0), (0, k)]) (rest := []) kx_247_31 kp_247_345 rfl kcl_172 rfl rfl (by decide) (m_172 (d := d) (v_ := k) (least := 0) (most := 5) hT hI) (kF (fun v7 v7p => ?_))
      refine s_if_ne (t := 39) kx_247_34 (by decide) (fun hc8 => ?_) (fun hc8 => ?_)
      · replace v7p := v7p.resolve_right (by omega)
        refine s_aload_n kx_247_39 rfl ?_
        refine s_aload_n kx_247_40 rfl ?_
        refine r_getK (k := 63) (f := 14) kx_247_41 kp_247_54 (tk_63 hT) kf_12_14 (fun _ => rfl) v3e ?_
        refine s_iload_n kx_247_44 rfl ?_
        refine s_iload_n kx_247_45 rfl ?_
        refine s_callV2 (k := 63) (s1 := 4) (s2 := 0) (as := [(0, which), (0, of_), (0, v3)]) (rest := []) kx_247_46 kp_247_341 (Or.inl rfl) rfl (tk_63 hT) ki_186 kcl_186 rfl rfl (by decide) (m_186 (d := d) (b := v3) (kind := of_) (k := which) hT hI (by omega) (by omega)) (kF (fun v9 v9p => ?_))
        refine s_lstore kx_247_49 km_247_5 rfl ?_
        refine s_iconst (v := 0) kx_247_51 (by decide) ?_
        refine s_istore kx_247_52 km_247_6 rfl ?_
        refine s_lload kx_247_54 rfl ?_
        refine s_lstore kx_247_56 km_247_8 rfl ?_
        have key12 : ∀ n13 : Nat, ∀ (x6_10 x7_11 : Int), ((-2147483648) ≤ x6_10) → (x6_10 ≤ 2147483647) → ((Int64.ofInt x7_11).toInt).toNat < n13 → cP k_P xs Ln (d + 1) 247 58 [(3, (0, k)), (4, (1, v9)), (6, (0, x6_10)), (7, (1, x7_11))] [] (T, M) (qF T M 0 (fun v => True)) := by
          intro n13
          induction n13 with
          | zero => intro x6_10 x7_11 i14 i15 hm16; exact absurd hm16 (Nat.not_lt_zero _)
          | succ n13 ih17 =>
            intro x6_10 x7_11 i14 i15 hm16
            refine s_lload kx_247_58 rfl ?_
            refine s_lconst (v := 0) kx_247_60 (by decide) ?_
            refine r_lcmpX kx_247_61 (fun v18 v18p => ?_)
            have v18w : (Int64.ofInt 0).toInt = 0 := bmod64 (by decide) (by decide)
            have v18z : x7_11 = 0 → (Int64.ofInt x7_11).toInt = (Int64.ofInt 0).toInt := fun e => by rw [e]
            refine s_if_le (t := 78) kx_247_62 (by decide) (fun hc19 => ?_) (fun hc19 => ?_)
            · refine s_iload_n kx_247_78 rfl ?_
              refine s_iload kx_247_79 rfl ?_
              refine s_icmp_lt (t := 88) kx_247_81 (by decide) (fun hc20 => ?_) (fun hc20 => ?_)
              · refine s_lload kx_247_88 rfl ?_
                refine s_bipush (v := 8) kx_247_90 (by decide) ?_
                refine s_iload kx_247_92 rfl ?_
                refine s_iconst (v := 1) kx_247_94 (by decide) ?_
                refine r_isubR kx_247_95 (fun v21 v21a v21b => ?_)
                refine s_iload_n kx_247_96 rfl ?_
                refine r_isubR kx_247_97 (fun v22 v22a v22b => ?_)
                refine r_imulR kx_247_98 (fun v23 v23a v23b => ?_)
                refine r_lshrR kx_247_99 (fun v24 v24a v24b => ?_)
                refine s_ldc2_w kx_247_100 kp_247_506 ?_
                refine r_landM kx_247_103 (by decide) (by decide) (fun v25 v25a v25b => ?_)
                refine r_l2iE kx_247_104 (by omega) (by omega) ?_
                refine s_bipush (v := 97) kx_247_105 (by decide) ?_
                refine r_sub kx_247_107 ⟨by omega, by omega⟩ ?_
                refine s_iconst (v := 1) kx_247_108 (by decide) ?_
                refine r_add kx_247_109 ⟨by omega, by omega⟩ ?_
                exact s_iret kx_247_110 (Or.inl kq_247) ⟨_, rfl, rfl, trivial⟩
              · refine s_iconst (v := 0) kx_247_84 (by decide) ?_
                refine s_goto (t := 110) kx_247_85 (by decide) ?_
                exact s_iret kx_247_110 (Or.inl kq_247) ⟨_, rfl, rfl, trivial⟩
            · refine r_iincR kx_247_65 rfl km_247_6 (fun v26 v26a v26b => ?_)
              refine s_lload kx_247_68 rfl ?_
              refine s_bipush (v := 8) kx_247_70 (by decide) ?_
              refine r_lshr8 kx_247_72 (by omega) (fun v27 v27p => ?_)
              refine s_lstore kx_247_73 km_247_8 rfl ?_
              refine s_goto (t := 58) kx_247_75 (by decide) ?_
              exact cP.wk (lS1 rfl (lS1 rfl (lS1 rfl (lS1 rfl lS0)))) (ih17 v26 v27 (by omega) (by omega) (by omega))
        exact cP.wk (lS1 rfl (lS1 rfl (lS1 rfl (lS1 rfl lS0)))) (key12 _ 0 v9 (by omega) (by omega) (Nat.lt_succ_self _))
      · replace v7p := v7p.resolve_left (by omega)
        refine s_iconst (v := (-1)) kx_247_37 (by decide) ?_
        exact s_iret kx_247_38 (Or.inl kq_247) ⟨_, rfl, rfl, trivial⟩
