theorem kx_103_0 : x_code k_P 103 0 = some (.bipush 24, 2) := by decide +kernel
theorem kx_103_2 : x_code k_P 103 2 = some (.istore_n 2, 1) := by decide +kernel
theorem km_103_2 : 2 < x_maxL k_P 103 := by decide +kernel
theorem kx_103_3 : x_code k_P 103 3 = some (.iload_n 2, 1) := by decide +kernel
theorem kx_103_4 : x_code k_P 103 4 = some (.ifCond .lt 47, 3) := by decide +kernel
theorem kx_103_51 : x_code k_P 103 51 = some (.return_, 1) := by decide +kernel
theorem kq_103 : x_retk k_P 103 = 0 := by decide +kernel
theorem kx_103_7 : x_code k_P 103 7 = some (.aload_n 0, 1) := by decide +kernel
theorem kx_103_8 : x_code k_P 103 8 = some (.getfield 15, 3) := by decide +kernel
theorem kp_103_15 : x_pool k_P 103 15 = (1, 8, 1) := by decide +kernel
theorem kx_103_11 : x_code k_P 103 11 = some (.aload_n 0, 1) := by decide +kernel
theorem kx_103_12 : x_code k_P 103 12 = some (.getfield 9, 3) := by decide +kernel
theorem kp_103_9 : x_pool k_P 103 9 = (1, 8, 0) := by decide +kernel
theorem kx_103_15 : x_code k_P 103 15 = some (.arraylength, 1) := by decide +kernel
theorem kx_103_16 : x_code k_P 103 16 = some (.if_icmp .ge 35, 3) := by decide +kernel
theorem kx_103_19 : x_code k_P 103 19 = some (.aload_n 0, 1) := by decide +kernel
theorem kx_103_20 : x_code k_P 103 20 = some (.getfield 9, 3) := by decide +kernel
theorem kx_103_23 : x_code k_P 103 23 = some (.aload_n 0, 1) := by decide +kernel
theorem kx_103_24 : x_code k_P 103 24 = some (.getfield 15, 3) := by decide +kernel
theorem kx_103_27 : x_code k_P 103 27 = some (.iload_n 1, 1) := by decide +kernel
theorem kx_103_28 : x_code k_P 103 28 = some (.iload_n 2, 1) := by decide +kernel
theorem kx_103_29 : x_code k_P 103 29 = some (.iushr, 1) := by decide +kernel
theorem kx_103_30 : x_code k_P 103 30 = some (.sipush 255, 3) := by decide +kernel
theorem kx_103_33 : x_code k_P 103 33 = some (.iand, 1) := by decide +kernel
theorem kx_103_34 : x_code k_P 103 34 = some (.iastore, 1) := by decide +kernel
theorem kx_103_35 : x_code k_P 103 35 = some (.aload_n 0, 1) := by decide +kernel
theorem kx_103_36 : x_code k_P 103 36 = some (.dup, 1) := by decide +kernel
theorem kx_103_37 : x_code k_P 103 37 = some (.getfield 15, 3) := by decide +kernel
theorem kx_103_40 : x_code k_P 103 40 = some (.iconst 1, 1) := by decide +kernel
theorem kx_103_41 : x_code k_P 103 41 = some (.iadd, 1) := by decide +kernel
theorem kx_103_42 : x_code k_P 103 42 = some (.putfield 15, 3) := by decide +kernel
theorem kx_103_45 : x_code k_P 103 45 = some (.iinc 2 (-8), 3) := by decide +kernel
theorem kx_103_48 : x_code k_P 103 48 = some (.goto (-45), 3) := by decide +kernel
def fS_103_l3 : List (Nat × Nat) := [(1, 1), (2, 99999)]
def fS_103_m : List (Nat × Nat) := [(1, 1), (2, 99999)]
theorem m_103 {xs : Nat → Int} {Ln d : Nat} {T : List cK} {M : cM} (hT : TT T) (hI : Rng M) {x : Int} (p0 : M 1 1 + 4 ≤ 1600) : cC k_P xs Ln (d + 0) 103 [rf 1, (0, x)] (T, M) (qV T M fS_103_m (fun M1 => M1 1 1 = M 1 1 + 4)) := by
  show cP k_P xs Ln (d + 0) 103 0 [(0, rf 1), (1, (0, x))] [] (T, M) _
  have hFm : Fr fS_103_m M M := Fr.refl
  refine s_bipush (v := 24) kx_103_0 (by decide) ?_
  refine s_istore_n kx_103_2 km_103_2 rfl ?_
  have key3 : ∀ n4 : Nat, ∀ (x2_1 : Int), ∀ M2 : cM, Rng M2 → Fr fS_103_m M M2 → Fr fS_103_l3 M M2 → ((-8) ≤ x2_1) → (x2_1 ≤ 24) → (8 * (M2 1 1 - M 1 1) = 24 - x2_1) → (x2_1 + 2147483648).toNat < n4 → cP k_P xs Ln (d + 0) 103 3 [(0, rf 1), (1, (0, x)), (2, (0, x2_1))] [] (T, M2) (qV T M fS_103_m (fun M1 => M1 1 1 = M 1 1 + 4)) := by
    intro n4
    induction n4 with
    | zero => intro x2_1 M2 hI2 hFm2 fl2 i5 i6 i7 hm8; exact absurd hm8 (Nat.not_lt_zero _)
    | succ n4 ih9 =>
      intro x2_1 M2 hI2 hFm2 fl2 i5 i6 i7 hm8
      refine s_iload_n kx_103_3 rfl ?_
      refine s_if_lt (t := 51) kx_103_4 (by decide) (fun hc10 => ?_) (fun hc10 => ?_)
      · exact s_vret kx_103_51 kq_103 ⟨_, rfl, rfl, hI2, hFm2, (by omega)⟩
      · refine s_aload_n kx_103_7 rfl ?_
        refine r_getI (k := 1) (f := 1) kx_103_8 kp_103_15 (tk_1 hT) kf_8_1 (fun _ => rfl) (rg_1_1 hI2) (fun v11 v11e v11a v11b => ?_)
        refine s_aload_n kx_103_11 rfl ?_
        refine r_getR (k := 1) (f := 0) (k2 := 2) kx_103_12 kp_103_9 (tk_1 hT) kf_8_0 (by decide) (rq_1_0 hI2) ?_
        refine r_alen (k := 2) kx_103_15 (tk_2 hT) ⟨by decide, by decide⟩ ?_
        refine s_icmp_ge (t := 51) kx_103_16 (by decide) (fun hc12 => ?_) (fun hc12 => ?_)
        · have hk13 : M2 1 1 = v11 := v11e
          exact s_vret kx_103_51 kq_103 ⟨_, rfl, rfl, hI2, hFm2, (by omega)⟩
        · refine s_aload_n kx_103_19 rfl ?_
          refine r_getR (k := 1) (f := 0) (k2 := 2) kx_103_20 kp_103_9 (tk_1 hT) kf_8_0 (by decide) (rq_1_0 hI2) ?_
          refine s_aload_n kx_103_23 rfl ?_
          refine r_getK (k := 1) (f := 1) kx_103_24 kp_103_15 (tk_1 hT) kf_8_1 (fun _ => rfl) v11e ?_
          refine s_iload_n kx_103_27 rfl ?_
          refine s_iload_n kx_103_28 rfl ?_
          refine r_iushrR kx_103_29 (fun v14 v14a v14b => ?_)
          refine s_sipush (v := 255) kx_103_30 (by decide) ?_
          refine r_iandM kx_103_33 (by decide) (by decide) (fun v15 v15a v15b => ?_)
          refine r_ast (k := 2) kx_103_34 (tk_2 hT) ⟨by omega, by omega⟩ hI2 (ru_2 (by omega) (by omega)) (fun M16 hI16 u16 => ?_)
          have hFm16 := hFm2.up u16 rfl
          have hFl316 := fl2.up u16 rfl
          refine s_aload_n kx_103_35 rfl ?_
          refine s_dup kx_103_36 rfl ?_
          refine r_getK (k := 1) (f := 1) kx_103_37 kp_103_15 (tk_1 hT) kf_8_1 (fun _ => rfl) ((u16.2 1 1 (by omega)).trans v11e) ?_
          refine s_iconst (v := 1) kx_103_40 (by decide) ?_
          refine r_add kx_103_41 ⟨by omega, by omega⟩ ?_
          refine r_put (k := 1) (f := 1) kx_103_42 kp_103_15 (tk_1 hT) kf_8_1 rfl (by decide) (by decide) hI16 (ru_1_1 (by omega) (by omega)) (fun M17 hI17 u17 => ?_)
          have hFm17 := hFm16.up u17 rfl
          have hFl317 := hFl316.up u17 rfl
          refine r_iinc kx_103_45 rfl km_103_2 (by decide) ⟨by omega, by omega⟩ rfl ?_
          refine s_goto (t := 3) kx_103_48 (by decide) ?_
          have hk18 : M17 1 1 = (v11 + 1) := u17.1
          exact cP.wk (lS1 rfl (lS1 rfl (lS1 rfl lS0))) (ih9 (x2_1 + (-8)) M17 hI17 hFm17 hFl317 (by omega) (by omega) (by omega) (by omega))
  exact cP.wk (lS1 rfl (lS1 rfl (lS1 rfl lS0))) (key3 _ 24 M hI hFm Fr.refl (by omega) (by omega) (by omega) (Nat.lt_succ_self _))
theorem kx_165_0 : x_code k_P 165 0 = some (.iload_n 1, 1) := by decide +kernel
theorem kx_165_1 : x_code k_P 165 1 = some (.ifCond .lt 22, 3) := by decide +kernel
theorem kx_165_23 : x_code k_P 165 23 = some (.iconst (-1), 1) := by decide +kernel
theorem kx_165_24 : x_code k_P 165 24 = some (.ireturn, 1) := by decide +kernel
theorem kq_165 : x_retk k_P 165 = 1 := by decide +kernel
theorem kx_165_4 : x_code k_P 165 4 = some (.iload_n 1, 1) := by decide +kernel
theorem kx_165_5 : x_code k_P 165 5 = some (.aload_n 0, 1) := by decide +kernel
theorem kx_165_6 : x_code k_P 165 6 = some (.getfield 58, 3) := by decide +kernel
theorem kp_165_58 : x_pool k_P 165 58 = (1, 11, 7) := by decide +kernel
theorem kf_11_7 : (x_cls k_P 11)[7]? = some 12 := by decide +kernel
theorem kx_165_9 : x_code k_P 165 9 = some (.arraylength, 1) := by decide +kernel
theorem kx_165_10 : x_code k_P 165 10 = some (.if_icmp .ge 13, 3) := by decide +kernel
theorem kx_165_13 : x_code k_P 165 13 = some (.aload_n 0, 1) := by decide +kernel
theorem kx_165_14 : x_code k_P 165 14 = some (.getfield 58, 3) := by decide +kernel
theorem kx_165_17 : x_code k_P 165 17 = some (.iload_n 1, 1) := by decide +kernel
theorem kx_165_18 : x_code k_P 165 18 = some (.dup2, 1) := by decide +kernel
theorem kx_165_19 : x_code k_P 165 19 = some (.iaload, 1) := by decide +kernel
theorem kx_165_20 : x_code k_P 165 20 = some (.iconst 1, 1) := by decide +kernel
theorem kx_165_21 : x_code k_P 165 21 = some (.iadd, 1) := by decide +kernel
theorem kx_165_22 : x_code k_P 165 22 = some (.iastore, 1) := by decide +kernel
def fS_165_m : List (Nat × Nat) := [(61, 99999)]
theorem m_165 {xs : Nat → Int} {Ln d : Nat} {T : List cK} {M : cM} (hT : TT T) (hI : Rng M) {kind : Int} : cC k_P xs Ln (d + 0) 165 [rf 0, (0, kind)] (T, M) (qW T M fS_165_m 0 (fun v M1 => (-1) ≤ v ∧ v ≤ (-1))) := by
  show cP k_P xs Ln (d + 0) 165 0 [(0, rf 0), (1, (0, kind))] [] (T, M) _
  have hFm : Fr fS_165_m M M := Fr.refl
  refine s_iload_n kx_165_0 rfl ?_
  refine s_if_lt (t := 23) kx_165_1 (by decide) (fun hc1 => ?_) (fun hc1 => ?_)
  · refine s_iconst (v := (-1)) kx_165_23 (by decide) ?_
    exact s_iret kx_165_24 (Or.inl kq_165) ⟨_, _, rfl, rfl, hI, hFm, (by omega)⟩
  · refine s_iload_n kx_165_4 rfl ?_
    refine s_aload_n kx_165_5 rfl ?_
    refine r_getR (k := 0) (f := 7) (k2 := 61) kx_165_6 kp_165_58 (tk_0 hT) kf_11_7 (by decide) (rq_0_7 hI) ?_
    refine r_alen (k := 61) kx_165_9 (tk_61 hT) ⟨by decide, by decide⟩ ?_
    refine s_icmp_ge (t := 23) kx_165_10 (by decide) (fun hc2 => ?_) (fun hc2 => ?_)
    · refine s_iconst (v := (-1)) kx_165_23 (by decide) ?_
      exact s_iret kx_165_24 (Or.inl kq_165) ⟨_, _, rfl, rfl, hI, hFm, (by omega)⟩
    · refine s_aload_n kx_165_13 rfl ?_
      refine r_getR (k := 0) (f := 7) (k2 := 61) kx_165_14 kp_165_58 (tk_0 hT) kf_11_7 (by decide) (rq_0_7 hI) ?_
      refine s_iload_n kx_165_17 rfl ?_
      refine s_dup2 kx_165_18 rfl rfl ?_
      refine r_aldU (k := 61) kx_165_19 (tk_61 hT) ⟨by omega, by omega⟩ (fun v3 v3e => ?_)
      refine s_iconst (v := 1) kx_165_20 (by decide) ?_
      refine r_iaddR kx_165_21 (fun v4 v4a v4b => ?_)
      refine r_ast (k := 61) kx_165_22 (tk_61 hT) ⟨by omega, by omega⟩ hI ru_61 (fun M5 hI5 u5 => ?_)
      have hFm5 := hFm.up u5 rfl
      refine s_iconst (v := (-1)) kx_165_23 (by decide) ?_
      exact s_iret kx_165_24 (Or.inl kq_165) ⟨_, _, rfl, rfl, hI5, hFm5, (by omega)⟩
theorem kx_136_0 : x_code k_P 136 0 = some (.aload_n 0, 1) := by decide +kernel
theorem kx_136_1 : x_code k_P 136 1 = some (.getfield 10, 3) := by decide +kernel
theorem kp_136_10 : x_pool k_P 136 10 = (1, 11, 0) := by decide +kernel
theorem kf_11_0 : (x_cls k_P 11)[0]? = some 12 := by decide +kernel
theorem kx_136_4 : x_code k_P 136 4 = some (.getfield 78, 3) := by decide +kernel
theorem kp_136_78 : x_pool k_P 136 78 = (1, 8, 1) := by decide +kernel
theorem kx_136_7 : x_code k_P 136 7 = some (.bipush 20, 2) := by decide +kernel
theorem kx_136_9 : x_code k_P 136 9 = some (.iadd, 1) := by decide +kernel
theorem kx_136_10 : x_code k_P 136 10 = some (.sipush 1600, 3) := by decide +kernel
theorem kx_136_13 : x_code k_P 136 13 = some (.if_icmp .le 9, 3) := by decide +kernel
theorem kx_136_22 : x_code k_P 136 22 = some (.aload_n 0, 1) := by decide +kernel
theorem kx_136_23 : x_code k_P 136 23 = some (.getfield 10, 3) := by decide +kernel
theorem kx_136_26 : x_code k_P 136 26 = some (.iload_n 1, 1) := by decide +kernel
theorem kx_136_27 : x_code k_P 136 27 = some (.invokevirtual 85, 3) := by decide +kernel
theorem kp_136_85 : x_pool k_P 136 85 = (2, 103, 1) := by decide +kernel
theorem ki_103 : x_mci k_P 103 = 8 := by decide +kernel
theorem kcl_103 : x_maxL k_P 103 ≤ 60 ∧ 2 ≤ x_maxL k_P 103 := by decide +kernel
theorem kx_136_30 : x_code k_P 136 30 = some (.aload_n 0, 1) := by decide +kernel
theorem kx_136_31 : x_code k_P 136 31 = some (.getfield 10, 3) := by decide +kernel
theorem kx_136_34 : x_code k_P 136 34 = some (.iload_n 2, 1) := by decide +kernel
theorem kx_136_35 : x_code k_P 136 35 = some (.invokevirtual 85, 3) := by decide +kernel
theorem kx_136_38 : x_code k_P 136 38 = some (.aload_n 0, 1) := by decide +kernel
theorem kx_136_39 : x_code k_P 136 39 = some (.getfield 10, 3) := by decide +kernel
theorem kx_136_42 : x_code k_P 136 42 = some (.iload_n 3, 1) := by decide +kernel
theorem kx_136_43 : x_code k_P 136 43 = some (.invokevirtual 85, 3) := by decide +kernel
theorem kx_136_46 : x_code k_P 136 46 = some (.aload_n 0, 1) := by decide +kernel
theorem kx_136_47 : x_code k_P 136 47 = some (.getfield 10, 3) := by decide +kernel
theorem kx_136_50 : x_code k_P 136 50 = some (.iload 4, 2) := by decide +kernel
theorem kx_136_52 : x_code k_P 136 52 = some (.invokevirtual 85, 3) := by decide +kernel
theorem kx_136_55 : x_code k_P 136 55 = some (.aload_n 0, 1) := by decide +kernel
theorem kx_136_56 : x_code k_P 136 56 = some (.getfield 10, 3) := by decide +kernel
theorem kx_136_59 : x_code k_P 136 59 = some (.iload 5, 2) := by decide +kernel
theorem kx_136_61 : x_code k_P 136 61 = some (.invokevirtual 85, 3) := by decide +kernel
theorem kx_136_64 : x_code k_P 136 64 = some (.aload_n 0, 1) := by decide +kernel
theorem kx_136_65 : x_code k_P 136 65 = some (.getfield 10, 3) := by decide +kernel
theorem kx_136_68 : x_code k_P 136 68 = some (.getfield 78, 3) := by decide +kernel
theorem kx_136_71 : x_code k_P 136 71 = some (.ireturn, 1) := by decide +kernel
theorem kq_136 : x_retk k_P 136 = 1 := by decide +kernel
theorem kx_136_16 : x_code k_P 136 16 = some (.aload_n 0, 1) := by decide +kernel
theorem kx_136_17 : x_code k_P 136 17 = some (.iconst 0, 1) := by decide +kernel
theorem kx_136_18 : x_code k_P 136 18 = some (.invokevirtual 81, 3) := by decide +kernel
theorem kp_136_81 : x_pool k_P 136 81 = (2, 165, 1) := by decide +kernel
theorem ki_165 : x_mci k_P 165 = 11 := by decide +kernel
theorem kcl_165 : x_maxL k_P 165 ≤ 60 ∧ 2 ≤ x_maxL k_P 165 := by decide +kernel
theorem kx_136_21 : x_code k_P 136 21 = some (.ireturn, 1) := by decide +kernel
def fS_136_m : List (Nat × Nat) := [(1, 1), (2, 99999), (61, 99999)]
theorem m_136 {xs : Nat → Int} {Ln d : Nat} {T : List cK} {M : cM} (hT : TT T) (hI : Rng M) {a b c e f : Int} : cC k_P xs Ln (d + 1) 136 [rf 0, (0, a), (0, b), (0, c), (0, e), (0, f)] (T, M) (qW T M fS_136_m 0 (fun v M1 => (1600 < M 1 1 + 20 ∧ v = -1 ∧ M1 1 1 = M 1 1) ∨ (M 1 1 + 20 ≤ 1600 ∧ v = M 1 1 + 20 ∧ M1 1 1 = v))) := by
  show cP k_P xs Ln (d + 1) 136 0 [(0, rf 0), (1, (0, a)), (2, (0, b)), (3, (0, c)), (4, (0, e)), (5, (0, f))] [] (T, M) _
  have hFm : Fr fS_136_m M M := Fr.refl
  refine s_aload_n kx_136_0 rfl ?_
  refine r_getR (k := 0) (f := 0) (k2 := 1) kx_136_1 kp_136_10 (tk_0 hT) kf_11_0 (by decide) (rq_0_0 hI) ?_
  refine r_getI (k := 1) (f := 1) kx_136_4 kp_136_78 (tk_1 hT) kf_8_1 (fun _ => rfl) (rg_1_1 hI) (fun v1 v1e v1a v1b => ?_)
  refine s_bipush (v := 20) kx_136_7 (by decide) ?_
  refine r_add kx_136_9 ⟨by omega, by omega⟩ ?_
  refine s_sipush (v := 1600) kx_136_10 (by decide) ?_
  refine s_icmp_le (t := 22) kx_136_13 (by decide) (fun hc2 => ?_) (fun hc2 => ?_)
  · refine s_aload_n kx_136_22 rfl ?_
    refine r_getR (k := 0) (f := 0) (k2 := 1) kx_136_23 kp_136_10 (tk_0 hT) kf_11_0 (by decide) (rq_0_0 hI) ?_
    refine s_iload_n kx_136_26 rfl ?_
    refine s_callV2 (k := 1) (s1 := 2) (s2 := 0) (as := [(0, a)]) (rest := []) kx_136_27 kp_136_85 (Or.inl rfl) rfl (tk_1 hT) ki_103 kcl_103 rfl rfl (by decide) (m_103 (d := d) (x := a) hT hI (by omega)) (kV (fun M4 hI4 fr4 v3p => ?_))
    have hFm4 := hFm.call fr4 rfl
    refine s_aload_n kx_136_30 rfl ?_
    refine r_getR (k := 0) (f := 0) (k2 := 1) kx_136_31 kp_136_10 (tk_0 hT) kf_11_0 (by decide) (rq_0_0 hI4) ?_
    refine s_iload_n kx_136_34 rfl ?_
    refine s_callV2 (k := 1) (s1 := 2) (s2 := 0) (as := [(0, b)]) (rest := []) kx_136_35 kp_136_85 (Or.inl rfl) rfl (tk_1 hT) ki_103 kcl_103 rfl rfl (by decide) (m_103 (d := d) (x := b) hT hI4 (by omega)) (kV (fun M6 hI6 fr6 v5p => ?_))
    have hFm6 := hFm4.call fr6 rfl
    refine s_aload_n kx_136_38 rfl ?_
    refine r_getR (k := 0) (f := 0) (k2 := 1) kx_136_39 kp_136_10 (tk_0 hT) kf_11_0 (by decide) (rq_0_0 hI6) ?_
    refine s_iload_n kx_136_42 rfl ?_
    refine s_callV2 (k := 1) (s1 := 2) (s2 := 0) (as := [(0, c)]) (rest := []) kx_136_43 kp_136_85 (Or.inl rfl) rfl (tk_1 hT) ki_103 kcl_103 rfl rfl (by decide) (m_103 (d := d) (x := c) hT hI6 (by omega)) (kV (fun M8 hI8 fr8 v7p => ?_))
    have hFm8 := hFm6.call fr8 rfl
    refine s_aload_n kx_136_46 rfl ?_
    refine r_getR (k := 0) (f := 0) (k2 := 1) kx_136_47 kp_136_10 (tk_0 hT) kf_11_0 (by decide) (rq_0_0 hI8) ?_
    refine s_iload kx_136_50 rfl ?_
    refine s_callV2 (k := 1) (s1 := 2) (s2 := 0) (as := [(0, e)]) (rest := []) kx_136_52 kp_136_85 (Or.inl rfl) rfl (tk_1 hT) ki_103 kcl_103 rfl rfl (by decide) (m_103 (d := d) (x := e) hT hI8 (by omega)) (kV (fun M10 hI10 fr10 v9p => ?_))
    have hFm10 := hFm8.call fr10 rfl
    refine s_aload_n kx_136_55 rfl ?_
    refine r_getR (k := 0) (f := 0) (k2 := 1) kx_136_56 kp_136_10 (tk_0 hT) kf_11_0 (by decide) (rq_0_0 hI10) ?_
    refine s_iload kx_136_59 rfl ?_
    refine s_callV2 (k := 1) (s1 := 2) (s2 := 0) (as := [(0, f)]) (rest := []) kx_136_61 kp_136_85 (Or.inl rfl) rfl (tk_1 hT) ki_103 kcl_103 rfl rfl (by decide) (m_103 (d := d) (x := f) hT hI10 (by omega)) (kV (fun M12 hI12 fr12 v11p => ?_))
    have hFm12 := hFm10.call fr12 rfl
    refine s_aload_n kx_136_64 rfl ?_
    refine r_getR (k := 0) (f := 0) (k2 := 1) kx_136_65 kp_136_10 (tk_0 hT) kf_11_0 (by decide) (rq_0_0 hI12) ?_
    refine r_getI (k := 1) (f := 1) kx_136_68 kp_136_78 (tk_1 hT) kf_8_1 (fun _ => rfl) (rg_1_1 hI12) (fun v13 v13e v13a v13b => ?_)
    have hk14 : M12 1 1 = v13 := v13e
    exact s_iret kx_136_71 (Or.inl kq_136) ⟨_, _, rfl, rfl, hI12, hFm12, (by omega)⟩
  · refine s_aload_n kx_136_16 rfl ?_
    refine s_iconst (v := 0) kx_136_17 (by decide) ?_
    refine s_callV2 (k := 0) (s1 := 2) (s2 := 0) (as := [(0, 0)]) (rest := []) kx_136_18 kp_136_81 (Or.inl rfl) rfl (tk_0 hT) ki_165 kcl_165 rfl rfl (by decide) (m_165 (d := d) (kind := 0) hT hI) (kW (fun v15 M16 hI16 fr16 v15p => ?_))
    have hFm16 := hFm.call fr16 rfl
    have hk17 : M16 1 1 = v1 := ((fr16 1 1 rfl).trans v1e)
    exact s_iret kx_136_21 (Or.inl kq_136) ⟨_, _, rfl, rfl, hI16, hFm16, (by omega)⟩
theorem kx_137_0 : x_code k_P 137 0 = some (.iload_n 1, 1) := by decide +kernel
theorem kx_137_1 : x_code k_P 137 1 = some (.ifCond .lt 14, 3) := by decide +kernel
theorem kx_137_15 : x_code k_P 137 15 = some (.aload_n 0, 1) := by decide +kernel
theorem kx_137_16 : x_code k_P 137 16 = some (.iconst 0, 1) := by decide +kernel
theorem kx_137_17 : x_code k_P 137 17 = some (.invokevirtual 81, 3) := by decide +kernel
theorem kp_137_81 : x_pool k_P 137 81 = (2, 165, 1) := by decide +kernel
theorem kx_137_20 : x_code k_P 137 20 = some (.pop, 1) := by decide +kernel
theorem kx_137_21 : x_code k_P 137 21 = some (.iconst 0, 1) := by decide +kernel
theorem kx_137_22 : x_code k_P 137 22 = some (.ireturn, 1) := by decide +kernel
theorem kq_137 : x_retk k_P 137 = 2 := by decide +kernel
theorem kx_137_4 : x_code k_P 137 4 = some (.iload_n 1, 1) := by decide +kernel
theorem kx_137_5 : x_code k_P 137 5 = some (.aload_n 0, 1) := by decide +kernel
theorem kx_137_6 : x_code k_P 137 6 = some (.getfield 10, 3) := by decide +kernel
theorem kp_137_10 : x_pool k_P 137 10 = (1, 11, 0) := by decide +kernel
theorem kx_137_9 : x_code k_P 137 9 = some (.getfield 78, 3) := by decide +kernel
theorem kp_137_78 : x_pool k_P 137 78 = (1, 8, 1) := by decide +kernel
theorem kx_137_12 : x_code k_P 137 12 = some (.if_icmp .le 11, 3) := by decide +kernel
theorem kx_137_23 : x_code k_P 137 23 = some (.aload_n 0, 1) := by decide +kernel
theorem kx_137_24 : x_code k_P 137 24 = some (.getfield 10, 3) := by decide +kernel
theorem kx_137_27 : x_code k_P 137 27 = some (.iload_n 1, 1) := by decide +kernel
theorem kx_137_28 : x_code k_P 137 28 = some (.putfield 78, 3) := by decide +kernel
theorem kx_137_31 : x_code k_P 137 31 = some (.iconst 1, 1) := by decide +kernel
theorem kx_137_32 : x_code k_P 137 32 = some (.ireturn, 1) := by decide +kernel
def fS_137_m : List (Nat × Nat) := [(1, 1), (61, 99999)]
theorem m_137 {xs : Nat → Int} {Ln d : Nat} {T : List cK} {M : cM} (hT : TT T) (hI : Rng M) {n : Int} : cC k_P xs Ln (d + 1) 137 [rf 0, (0, n)] (T, M) (qW T M fS_137_m 0 (fun v M1 => (v = 1 ∧ M1 1 1 = n ∧ 0 ≤ n ∧ n ≤ M 1 1) ∨ (v = 0 ∧ M1 1 1 = M 1 1 ∧ (n < 0 ∨ M 1 1 < n)))) := by
  show cP k_P xs Ln (d + 1) 137 0 [(0, rf 0), (1, (0, n))] [] (T, M) _
  have hFm : Fr fS_137_m M M := Fr.refl
  refine s_iload_n kx_137_0 rfl ?_
  refine s_if_lt (t := 15) kx_137_1 (by decide) (fun hc1 => ?_) (fun hc1 => ?_)
  · refine s_aload_n kx_137_15 rfl ?_
    refine s_iconst (v := 0) kx_137_16 (by decide) ?_
    refine s_callV2 (k := 0) (s1 := 2) (s2 := 0) (as := [(0, 0)]) (rest := []) kx_137_17 kp_137_81 (Or.inl rfl) rfl (tk_0 hT) ki_165 kcl_165 rfl rfl (by decide) (m_165 (d := d) (kind := 0) hT hI) (kW (fun v2 M3 hI3 fr3 v2p => ?_))
    have hFm3 := hFm.call fr3 rfl
    refine s_pop kx_137_20 rfl ?_
    refine s_iconst (v := 0) kx_137_21 (by decide) ?_
    have hz9 : M3 1 1 = M 1 1 := (fr3 1 1 rfl)
    exact s_iret kx_137_22 (Or.inr ⟨kq_137, by omega⟩) ⟨_, _, rfl, rfl, hI3, hFm3, (by omega)⟩
  · refine s_iload_n kx_137_4 rfl ?_
    refine s_aload_n kx_137_5 rfl ?_
    refine r_getR (k := 0) (f := 0) (k2 := 1) kx_137_6 kp_137_10 (tk_0 hT) kf_11_0 (by decide) (rq_0_0 hI) ?_
    refine r_getI (k := 1) (f := 1) kx_137_9 kp_137_78 (tk_1 hT) kf_8_1 (fun _ => rfl) (rg_1_1 hI) (fun v4 v4e v4a v4b => ?_)
    refine s_icmp_le (t := 23) kx_137_12 (by decide) (fun hc5 => ?_) (fun hc5 => ?_)
    · refine s_aload_n kx_137_23 rfl ?_
      refine r_getR (k := 0) (f := 0) (k2 := 1) kx_137_24 kp_137_10 (tk_0 hT) kf_11_0 (by decide) (rq_0_0 hI) ?_
      refine s_iload_n kx_137_27 rfl ?_
      refine r_put (k := 1) (f := 1) kx_137_28 kp_137_78 (tk_1 hT) kf_8_1 rfl (by decide) (by decide) hI (ru_1_1 (by omega) (by omega)) (fun M6 hI6 u6 => ?_)
      have hFm6 := hFm.up u6 rfl
      refine s_iconst (v := 1) kx_137_31 (by decide) ?_
      have hk7 : M6 1 1 = n := u6.1
      exact s_iret kx_137_32 (Or.inr ⟨kq_137, by omega⟩) ⟨_, _, rfl, rfl, hI6, hFm6, (by omega)⟩
    · refine s_aload_n kx_137_15 rfl ?_
      refine s_iconst (v := 0) kx_137_16 (by decide) ?_
      refine s_callV2 (k := 0) (s1 := 2) (s2 := 0) (as := [(0, 0)]) (rest := []) kx_137_17 kp_137_81 (Or.inl rfl) rfl (tk_0 hT) ki_165 kcl_165 rfl rfl (by decide) (m_165 (d := d) (kind := 0) hT hI) (kW (fun v8 M9 hI9 fr9 v8p => ?_))
      have hFm9 := hFm.call fr9 rfl
      refine s_pop kx_137_20 rfl ?_
      refine s_iconst (v := 0) kx_137_21 (by decide) ?_
      have hk10 : M9 1 1 = v4 := ((fr9 1 1 rfl).trans v4e)
      exact s_iret kx_137_22 (Or.inr ⟨kq_137, by omega⟩) ⟨_, _, rfl, rfl, hI9, hFm9, (by omega)⟩
theorem kx_139_0 : x_code k_P 139 0 = some (.iload_n 1, 1) := by decide +kernel
theorem kx_139_1 : x_code k_P 139 1 = some (.ifCond .ne 8, 3) := by decide +kernel
theorem kx_139_9 : x_code k_P 139 9 = some (.iload_n 1, 1) := by decide +kernel
theorem kx_139_10 : x_code k_P 139 10 = some (.iconst 1, 1) := by decide +kernel
theorem kx_139_11 : x_code k_P 139 11 = some (.if_icmp .ne 10, 3) := by decide +kernel
theorem kx_139_21 : x_code k_P 139 21 = some (.iconst (-1), 1) := by decide +kernel
theorem kx_139_22 : x_code k_P 139 22 = some (.ireturn, 1) := by decide +kernel
theorem kq_139 : x_retk k_P 139 = 1 := by decide +kernel
theorem kx_139_14 : x_code k_P 139 14 = some (.aload_n 0, 1) := by decide +kernel
theorem kx_139_15 : x_code k_P 139 15 = some (.getfield 72, 3) := by decide +kernel
theorem kp_139_72 : x_pool k_P 139 72 = (1, 11, 11) := by decide +kernel
theorem kf_11_11 : (x_cls k_P 11)[11]? = some 0 := by decide +kernel
theorem kx_139_18 : x_code k_P 139 18 = some (.goto 4, 3) := by decide +kernel
theorem kx_139_4 : x_code k_P 139 4 = some (.aload_n 0, 1) := by decide +kernel
theorem kx_139_5 : x_code k_P 139 5 = some (.getfield 69, 3) := by decide +kernel
theorem kp_139_69 : x_pool k_P 139 69 = (1, 11, 10) := by decide +kernel
theorem kf_11_10 : (x_cls k_P 11)[10]? = some 0 := by decide +kernel
theorem kx_139_8 : x_code k_P 139 8 = some (.ireturn, 1) := by decide +kernel
theorem m_139 {xs : Nat → Int} {Ln d : Nat} {T : List cK} {M : cM} (hT : TT T) (hI : Rng M) {what : Int} : cC k_P xs Ln (d + 0) 139 [rf 0, (0, what)] (T, M) (qF T M 0 (fun v => True)) := by
  show cP k_P xs Ln (d + 0) 139 0 [(0, rf 0), (1, (0, what))] [] (T, M) _
  refine s_iload_n kx_139_0 rfl ?_
  refine s_if_ne (t := 9) kx_139_1 (by decide) (fun hc1 => ?_) (fun hc1 => ?_)
  · refine s_iload_n kx_139_9 rfl ?_
    refine s_iconst (v := 1) kx_139_10 (by decide) ?_
    refine s_icmp_ne (t := 21) kx_139_11 (by decide) (fun hc2 => ?_) (fun hc2 => ?_)
    · refine s_iconst (v := (-1)) kx_139_21 (by decide) ?_
      exact s_iret kx_139_22 (Or.inl kq_139) ⟨_, rfl, rfl, trivial⟩
    · refine s_aload_n kx_139_14 rfl ?_
      refine r_getU (k := 0) (f := 11) kx_139_15 kp_139_72 (tk_0 hT) kf_11_11 (fun _ => rfl) (fun v3 v3e => ?_)
      refine s_goto (t := 22) kx_139_18 (by decide) ?_
      exact s_iret kx_139_22 (Or.inl kq_139) ⟨_, rfl, rfl, trivial⟩
  · refine s_aload_n kx_139_4 rfl ?_
    refine r_getU (k := 0) (f := 10) kx_139_5 kp_139_69 (tk_0 hT) kf_11_10 (fun _ => rfl) (fun v4 v4e => ?_)
    exact s_iret kx_139_8 (Or.inl kq_139) ⟨_, rfl, rfl, trivial⟩
theorem kx_140_0 : x_code k_P 140 0 = some (.iload_n 1, 1) := by decide +kernel
theorem kx_140_1 : x_code k_P 140 1 = some (.tableswitch 156 0 10 #[59, 70, 81, 92, 103, 111, 119, 127, 135, 143, 151], 59) := by decide +kernel
theorem kx_140_60 : x_code k_P 140 60 = some (.aload_n 0, 1) := by decide +kernel
theorem kx_140_61 : x_code k_P 140 61 = some (.getfield 26, 3) := by decide +kernel
theorem kp_140_26 : x_pool k_P 140 26 = (1, 11, 2) := by decide +kernel
theorem kf_11_2 : (x_cls k_P 11)[2]? = some 12 := by decide +kernel
theorem kx_140_64 : x_code k_P 140 64 = some (.getfield 120, 3) := by decide +kernel
theorem kp_140_120 : x_pool k_P 140 120 = (1, 5, 0) := by decide +kernel
theorem kx_140_67 : x_code k_P 140 67 = some (.getfield 123, 3) := by decide +kernel
theorem kp_140_123 : x_pool k_P 140 123 = (1, 9, 0) := by decide +kernel
theorem kx_140_70 : x_code k_P 140 70 = some (.ireturn, 1) := by decide +kernel
theorem kq_140 : x_retk k_P 140 = 1 := by decide +kernel
theorem kx_140_71 : x_code k_P 140 71 = some (.aload_n 0, 1) := by decide +kernel
theorem kx_140_72 : x_code k_P 140 72 = some (.getfield 26, 3) := by decide +kernel
theorem kx_140_75 : x_code k_P 140 75 = some (.getfield 120, 3) := by decide +kernel
theorem kx_140_78 : x_code k_P 140 78 = some (.getfield 128, 3) := by decide +kernel
theorem kp_140_128 : x_pool k_P 140 128 = (1, 9, 1) := by decide +kernel
theorem kx_140_81 : x_code k_P 140 81 = some (.ireturn, 1) := by decide +kernel
theorem kx_140_82 : x_code k_P 140 82 = some (.aload_n 0, 1) := by decide +kernel
theorem kx_140_83 : x_code k_P 140 83 = some (.getfield 26, 3) := by decide +kernel
theorem kx_140_86 : x_code k_P 140 86 = some (.getfield 120, 3) := by decide +kernel
theorem kx_140_89 : x_code k_P 140 89 = some (.getfield 131, 3) := by decide +kernel
theorem kp_140_131 : x_pool k_P 140 131 = (1, 9, 2) := by decide +kernel
theorem kx_140_92 : x_code k_P 140 92 = some (.ireturn, 1) := by decide +kernel
theorem kx_140_93 : x_code k_P 140 93 = some (.aload_n 0, 1) := by decide +kernel
theorem kx_140_94 : x_code k_P 140 94 = some (.getfield 26, 3) := by decide +kernel
theorem kx_140_97 : x_code k_P 140 97 = some (.getfield 120, 3) := by decide +kernel
theorem kx_140_100 : x_code k_P 140 100 = some (.getfield 134, 3) := by decide +kernel
theorem kp_140_134 : x_pool k_P 140 134 = (1, 9, 3) := by decide +kernel
theorem kx_140_103 : x_code k_P 140 103 = some (.ireturn, 1) := by decide +kernel
theorem kx_140_104 : x_code k_P 140 104 = some (.aload_n 0, 1) := by decide +kernel
theorem kx_140_105 : x_code k_P 140 105 = some (.getfield 26, 3) := by decide +kernel
theorem kx_140_108 : x_code k_P 140 108 = some (.invokevirtual 137, 3) := by decide +kernel
theorem kp_140_137 : x_pool k_P 140 137 = (2, 49, 0) := by decide +kernel
theorem ki_49 : x_mci k_P 49 = 5 := by decide +kernel
theorem kcl_49 : x_maxL k_P 49 ≤ 60 ∧ 1 ≤ x_maxL k_P 49 := by decide +kernel
theorem kx_140_111 : x_code k_P 140 111 = some (.ireturn, 1) := by decide +kernel
theorem kx_140_112 : x_code k_P 140 112 = some (.aload_n 0, 1) := by decide +kernel
theorem kx_140_113 : x_code k_P 140 113 = some (.getfield 26, 3) := by decide +kernel
theorem kx_140_116 : x_code k_P 140 116 = some (.invokevirtual 141, 3) := by decide +kernel
theorem kp_140_141 : x_pool k_P 140 141 = (2, 50, 0) := by decide +kernel
theorem ki_50 : x_mci k_P 50 = 5 := by decide +kernel
theorem kcl_50 : x_maxL k_P 50 ≤ 60 ∧ 1 ≤ x_maxL k_P 50 := by decide +kernel
theorem kx_140_119 : x_code k_P 140 119 = some (.ireturn, 1) := by decide +kernel
theorem kx_140_120 : x_code k_P 140 120 = some (.aload_n 0, 1) := by decide +kernel
theorem kx_140_121 : x_code k_P 140 121 = some (.getfield 26, 3) := by decide +kernel
theorem kx_140_124 : x_code k_P 140 124 = some (.invokevirtual 144, 3) := by decide +kernel
theorem kp_140_144 : x_pool k_P 140 144 = (2, 51, 0) := by decide +kernel
theorem ki_51 : x_mci k_P 51 = 5 := by decide +kernel
theorem kcl_51 : x_maxL k_P 51 ≤ 60 ∧ 1 ≤ x_maxL k_P 51 := by decide +kernel
theorem kx_140_127 : x_code k_P 140 127 = some (.ireturn, 1) := by decide +kernel
theorem kx_140_128 : x_code k_P 140 128 = some (.aload_n 0, 1) := by decide +kernel
theorem kx_140_129 : x_code k_P 140 129 = some (.getfield 26, 3) := by decide +kernel
theorem kx_140_132 : x_code k_P 140 132 = some (.invokevirtual 147, 3) := by decide +kernel
theorem kp_140_147 : x_pool k_P 140 147 = (2, 52, 0) := by decide +kernel
theorem ki_52 : x_mci k_P 52 = 5 := by decide +kernel
theorem kcl_52 : x_maxL k_P 52 ≤ 60 ∧ 1 ≤ x_maxL k_P 52 := by decide +kernel
theorem kx_140_135 : x_code k_P 140 135 = some (.ireturn, 1) := by decide +kernel
theorem kx_140_136 : x_code k_P 140 136 = some (.aload_n 0, 1) := by decide +kernel
theorem kx_140_137 : x_code k_P 140 137 = some (.getfield 26, 3) := by decide +kernel
theorem kx_140_140 : x_code k_P 140 140 = some (.invokevirtual 150, 3) := by decide +kernel
theorem kp_140_150 : x_pool k_P 140 150 = (2, 48, 0) := by decide +kernel
theorem kx_140_143 : x_code k_P 140 143 = some (.ireturn, 1) := by decide +kernel
theorem kx_140_144 : x_code k_P 140 144 = some (.aload_n 0, 1) := by decide +kernel
theorem kx_140_145 : x_code k_P 140 145 = some (.getfield 33, 3) := by decide +kernel
theorem kp_140_33 : x_pool k_P 140 33 = (1, 11, 3) := by decide +kernel
theorem kf_11_3 : (x_cls k_P 11)[3]? = some 12 := by decide +kernel
theorem kx_140_148 : x_code k_P 140 148 = some (.getfield 110, 3) := by decide +kernel
theorem kp_140_110 : x_pool k_P 140 110 = (1, 2, 2) := by decide +kernel
theorem kx_140_151 : x_code k_P 140 151 = some (.ireturn, 1) := by decide +kernel
theorem kx_140_152 : x_code k_P 140 152 = some (.aload_n 0, 1) := by decide +kernel
theorem kx_140_153 : x_code k_P 140 153 = some (.getfield 75, 3) := by decide +kernel
theorem kp_140_75 : x_pool k_P 140 75 = (1, 11, 12) := by decide +kernel
theorem kf_11_12 : (x_cls k_P 11)[12]? = some 0 := by decide +kernel
theorem kx_140_156 : x_code k_P 140 156 = some (.ireturn, 1) := by decide +kernel
theorem kx_140_157 : x_code k_P 140 157 = some (.iconst (-1), 1) := by decide +kernel
theorem kx_140_158 : x_code k_P 140 158 = some (.ireturn, 1) := by decide +kernel
theorem m_140 {xs : Nat → Int} {Ln d : Nat} {T : List cK} {M : cM} (hT : TT T) (hI : Rng M) {t : Nat} (ht : t = 8 ∨ t = 25) (h70 : M 7 0 = ((t : Nat) : Int)) {what : Int} : cC k_P xs Ln (d + 4) 140 [rf 0, (0, what)] (T, M) (qF T M 0 (fun v => True)) := by
  show cP k_P xs Ln (d + 4) 140 0 [(0, rf 0), (1, (0, what))] [] (T, M) _
  refine s_iload_n kx_140_0 rfl ?_
  rcases (by omega : what = 0 ∨ what = 1 ∨ what = 2 ∨ what = 3 ∨ what = 4 ∨ what = 5 ∨ what = 6 ∨ what = 7 ∨ what = 8 ∨ what = 9 ∨ what = 10 ∨ (what < 0 ∨ 10 < what)) with hs1 | hs1 | hs1 | hs1 | hs1 | hs1 | hs1 | hs1 | hs1 | hs1 | hs1 | hs1
  · refine s_tsw (t := 60) kx_140_1 (by decide) 0 hs1 (by decide) ?_
    refine s_aload_n kx_140_60 rfl ?_
    refine r_getR (k := 0) (f := 2) (k2 := 7) kx_140_61 kp_140_26 (tk_0 hT) kf_11_2 (by decide) (rq_0_2 hI) ?_
    refine r_getR (k := 7) (f := 0) (k2 := t) kx_140_64 kp_140_120 (tk_7 hT) kf_5_0 (by decide) h70 ?_
    refine r_getI (k := t) (f := 0) kx_140_67 kp_140_123 (tkt_0 hT ht) kf_9_0 (fun _ => rfl) (rgt_0_0 hI ht) (fun v2 v2e v2a v2b => ?_)
    exact s_iret kx_140_70 (Or.inl kq_140) ⟨_, rfl, rfl, trivial⟩
  · refine s_tsw (t := 71) kx_140_1 (by decide) 1 hs1 (by decide) ?_
    refine s_aload_n kx_140_71 rfl ?_
    refine r_getR (k := 0) (f := 2) (k2 := 7) kx_140_72 kp_140_26 (tk_0 hT) kf_11_2 (by decide) (rq_0_2 hI) ?_
    refine r_getR (k := 7) (f := 0) (k2 := t) kx_140_75 kp_140_120 (tk_7 hT) kf_5_0 (by decide) h70 ?_
    refine r_getI (k := t) (f := 1) kx_140_78 kp_140_128 (tkt_0 hT ht) kf_9_1 (fun _ => rfl) (rgt_0_1 hI ht) (fun v3 v3e v3a v3b => ?_)
    exact s_iret kx_140_81 (Or.inl kq_140) ⟨_, rfl, rfl, trivial⟩
  · refine s_tsw (t := 82) kx_140_1 (by decide) 2 hs1 (by decide) ?_
    refine s_aload_n kx_140_82 rfl ?_
    refine r_getR (k := 0) (f := 2) (k2 := 7) kx_140_83 kp_140_26 (tk_0 hT) kf_11_2 (by decide) (rq_0_2 hI) ?_
    refine r_getR (k := 7) (f := 0) (k2 := t) kx_140_86 kp_140_120 (tk_7 hT) kf_5_0 (by decide) h70 ?_
    refine r_getU (k := t) (f := 2) kx_140_89 kp_140_131 (tkt_0 hT ht) kf_9_2 (fun _ => rfl) (fun v4 v4e => ?_)
    exact s_iret kx_140_92 (Or.inl kq_140) ⟨_, rfl, rfl, trivial⟩
  · refine s_tsw (t := 93) kx_140_1 (by decide) 3 hs1 (by decide) ?_
    refine s_aload_n kx_140_93 rfl ?_
    refine r_getR (k := 0) (f := 2) (k2 := 7) kx_140_94 kp_140_26 (tk_0 hT) kf_11_2 (by decide) (rq_0_2 hI) ?_
    refine r_getR (k := 7) (f := 0) (k2 := t) kx_140_97 kp_140_120 (tk_7 hT) kf_5_0 (by decide) h70 ?_
    refine r_getU (k := t) (f := 3) kx_140_100 kp_140_134 (tkt_0 hT ht) kf_9_3 (fun _ => rfl) (fun v5 v5e => ?_)
    exact s_iret kx_140_103 (Or.inl kq_140) ⟨_, rfl, rfl, trivial⟩
  · refine s_tsw (t := 104) kx_140_1 (by decide) 4 hs1 (by decide) ?_
    refine s_aload_n kx_140_104 rfl ?_
    refine r_getR (k := 0) (f := 2) (k2 := 7) kx_140_105 kp_140_26 (tk_0 hT) kf_11_2 (by decide) (rq_0_2 hI) ?_
    refine s_callV2 (k := 7) (s1 := 1) (s2 := 0) (as := []) (rest := []) kx_140_108 kp_140_137 (Or.inl rfl) rfl (tk_7 hT) ki_49 kcl_49 rfl rfl (by decide) (m_49 (d := d) hT hI ht h70) (kF (fun v6 v6p => ?_))
    exact s_iret kx_140_111 (Or.inl kq_140) ⟨_, rfl, rfl, trivial⟩
  · refine s_tsw (t := 112) kx_140_1 (by decide) 5 hs1 (by decide) ?_
    refine s_aload_n kx_140_112 rfl ?_
    refine r_getR (k := 0) (f := 2) (k2 := 7) kx_140_113 kp_140_26 (tk_0 hT) kf_11_2 (by decide) (rq_0_2 hI) ?_
    refine s_callV2 (k := 7) (s1 := 1) (s2 := 0) (as := []) (rest := []) kx_140_116 kp_140_141 (Or.inl rfl) rfl (tk_7 hT) ki_50 kcl_50 rfl rfl (by decide) (m_50 (d := d + 2) hT hI ht h70) (kF (fun v7 v7p => ?_))
    exact s_iret kx_140_119 (Or.inl kq_140) ⟨_, rfl, rfl, trivial⟩
  · refine s_tsw (t := 120) kx_140_1 (by decide) 6 hs1 (by decide) ?_
    refine s_aload_n kx_140_120 rfl ?_
    refine r_getR (k := 0) (f := 2) (k2 := 7) kx_140_121 kp_140_26 (tk_0 hT) kf_11_2 (by decide) (rq_0_2 hI) ?_
    refine s_callV2 (k := 7) (s1 := 1) (s2 := 0) (as := []) (rest := []) kx_140_124 kp_140_144 (Or.inl rfl) rfl (tk_7 hT) ki_51 kcl_51 rfl rfl (by decide) (m_51 (d := d + 2) hT hI ht h70) (kF (fun v8 v8p => ?_))
    exact s_iret kx_140_127 (Or.inl kq_140) ⟨_, rfl, rfl, trivial⟩
  · refine s_tsw (t := 128) kx_140_1 (by decide) 7 hs1 (by decide) ?_
    refine s_aload_n kx_140_128 rfl ?_
    refine r_getR (k := 0) (f := 2) (k2 := 7) kx_140_129 kp_140_26 (tk_0 hT) kf_11_2 (by decide) (rq_0_2 hI) ?_
    refine s_callV2 (k := 7) (s1 := 1) (s2 := 0) (as := []) (rest := []) kx_140_132 kp_140_147 (Or.inl rfl) rfl (tk_7 hT) ki_52 kcl_52 rfl rfl (by decide) (m_52 (d := d + 2) hT hI ht h70) (kF (fun v9 v9p => ?_))
    exact s_iret kx_140_135 (Or.inl kq_140) ⟨_, rfl, rfl, trivial⟩
  · refine s_tsw (t := 136) kx_140_1 (by decide) 8 hs1 (by decide) ?_
    refine s_aload_n kx_140_136 rfl ?_
    refine r_getR (k := 0) (f := 2) (k2 := 7) kx_140_137 kp_140_26 (tk_0 hT) kf_11_2 (by decide) (rq_0_2 hI) ?_
    refine s_callV2 (k := 7) (s1 := 1) (s2 := 0) (as := []) (rest := []) kx_140_140 kp_140_150 (Or.inl rfl) rfl (tk_7 hT) ki_48 kcl_48 rfl rfl (by decide) (m_48 (d := d + 3) hT hI) (kF (fun v10 v10p => ?_))
    exact s_iret kx_140_143 (Or.inl kq_140) ⟨_, rfl, rfl, trivial⟩
  · refine s_tsw (t := 144) kx_140_1 (by decide) 9 hs1 (by decide) ?_
    refine s_aload_n kx_140_144 rfl ?_
    refine r_getR (k := 0) (f := 3) (k2 := 44) kx_140_145 kp_140_33 (tk_0 hT) kf_11_3 (by decide) (rq_0_3 hI) ?_
    refine r_getU (k := 44) (f := 2) kx_140_148 kp_140_110 (tk_44 hT) kf_2_2 (fun _ => rfl) (fun v11 v11e => ?_)
    exact s_iret kx_140_151 (Or.inl kq_140) ⟨_, rfl, rfl, trivial⟩
  · refine s_tsw (t := 152) kx_140_1 (by decide) 10 hs1 (by decide) ?_
    refine s_aload_n kx_140_152 rfl ?_
    refine r_getI (k := 0) (f := 12) kx_140_153 kp_140_75 (tk_0 hT) kf_11_12 (fun _ => rfl) (rg_0_12 hI) (fun v12 v12e v12a v12b => ?_)
    exact s_iret kx_140_156 (Or.inl kq_140) ⟨_, rfl, rfl, trivial⟩
  · refine s_tswD (t := 157) kx_140_1 (by decide) hs1 (by decide) ?_
    refine s_iconst (v := (-1)) kx_140_157 (by decide) ?_
    exact s_iret kx_140_158 (Or.inl kq_140) ⟨_, rfl, rfl, trivial⟩
theorem kx_166_0 : x_code k_P 166 0 = some (.iload_n 0, 1) := by decide +kernel
theorem kx_166_1 : x_code k_P 166 1 = some (.bipush 25, 2) := by decide +kernel
theorem kx_166_3 : x_code k_P 166 3 = some (.iconst 5, 1) := by decide +kernel
theorem kx_166_4 : x_code k_P 166 4 = some (.iload_n 1, 1) := by decide +kernel
theorem kx_166_5 : x_code k_P 166 5 = some (.imul, 1) := by decide +kernel
theorem kx_166_6 : x_code k_P 166 6 = some (.isub, 1) := by decide +kernel
theorem kx_166_7 : x_code k_P 166 7 = some (.ishr, 1) := by decide +kernel
theorem kx_166_8 : x_code k_P 166 8 = some (.bipush 31, 2) := by decide +kernel
theorem kx_166_10 : x_code k_P 166 10 = some (.iand, 1) := by decide +kernel
theorem kx_166_11 : x_code k_P 166 11 = some (.ireturn, 1) := by decide +kernel
theorem kq_166 : x_retk k_P 166 = 1 := by decide +kernel
theorem m_166 {xs : Nat → Int} {Ln d : Nat} {T : List cK} {M : cM} (hT : TT T) (hI : Rng M) {name k : Int} : cC k_P xs Ln (d + 0) 166 [(0, name), (0, k)] (T, M) (qF T M 0 (fun v => True)) := by
  show cP k_P xs Ln (d + 0) 166 0 [(0, (0, name)), (1, (0, k))] [] (T, M) _
  refine s_iload_n kx_166_0 rfl ?_
  refine s_bipush (v := 25) kx_166_1 (by decide) ?_
  refine s_iconst (v := 5) kx_166_3 (by decide) ?_
  refine s_iload_n kx_166_4 rfl ?_
  refine r_imulR kx_166_5 (fun v1 v1a v1b => ?_)
  refine r_isubR kx_166_6 (fun v2 v2a v2b => ?_)
  refine r_ishrR kx_166_7 (fun v3 v3a v3b => ?_)
  refine s_bipush (v := 31) kx_166_8 (by decide) ?_
  refine r_iandM kx_166_10 (by decide) (by decide) (fun v4 v4a v4b => ?_)
  exact s_iret kx_166_11 (Or.inl kq_166) ⟨_, rfl, rfl, trivial⟩
theorem kx_141_0 : x_code k_P 141 0 = some (.iload_n 3, 1) := by decide +kernel
theorem kx_141_1 : x_code k_P 141 1 = some (.ifCond .lt 8, 3) := by decide +kernel
theorem kx_141_9 : x_code k_P 141 9 = some (.iconst (-1), 1) := by decide +kernel
theorem kx_141_10 : x_code k_P 141 10 = some (.ireturn, 1) := by decide +kernel
theorem kq_141 : x_retk k_P 141 = 1 := by decide +kernel
theorem kx_141_4 : x_code k_P 141 4 = some (.iload_n 3, 1) := by decide +kernel
theorem kx_141_5 : x_code k_P 141 5 = some (.iconst 5, 1) := by decide +kernel
theorem kx_141_6 : x_code k_P 141 6 = some (.if_icmp .le 5, 3) := by decide +kernel
theorem kx_141_11 : x_code k_P 141 11 = some (.iload_n 1, 1) := by decide +kernel
theorem kx_141_12 : x_code k_P 141 12 = some (.ifCond .ne 34, 3) := by decide +kernel
theorem kx_141_46 : x_code k_P 141 46 = some (.iload_n 1, 1) := by decide +kernel
theorem kx_141_47 : x_code k_P 141 47 = some (.iconst 1, 1) := by decide +kernel
theorem kx_141_48 : x_code k_P 141 48 = some (.if_icmp .ne 34, 3) := by decide +kernel
theorem kx_141_82 : x_code k_P 141 82 = some (.iconst (-1), 1) := by decide +kernel
theorem kx_141_83 : x_code k_P 141 83 = some (.ireturn, 1) := by decide +kernel
theorem kx_141_51 : x_code k_P 141 51 = some (.aload_n 0, 1) := by decide +kernel
theorem kx_141_52 : x_code k_P 141 52 = some (.getfield 26, 3) := by decide +kernel
theorem kp_141_26 : x_pool k_P 141 26 = (1, 11, 2) := by decide +kernel
theorem kx_141_55 : x_code k_P 141 55 = some (.getfield 120, 3) := by decide +kernel
theorem kp_141_120 : x_pool k_P 141 120 = (1, 5, 0) := by decide +kernel
theorem kx_141_58 : x_code k_P 141 58 = some (.iload_n 2, 1) := by decide +kernel
theorem kx_141_59 : x_code k_P 141 59 = some (.invokevirtual 164, 3) := by decide +kernel
theorem kp_141_164 : x_pool k_P 141 164 = (2, 107, 1) := by decide +kernel
theorem kx_141_62 : x_code k_P 141 62 = some (.ifCond .eq 20, 3) := by decide +kernel
theorem kx_141_65 : x_code k_P 141 65 = some (.aload_n 0, 1) := by decide +kernel
theorem kx_141_66 : x_code k_P 141 66 = some (.getfield 26, 3) := by decide +kernel
theorem kx_141_69 : x_code k_P 141 69 = some (.getfield 120, 3) := by decide +kernel
theorem kx_141_72 : x_code k_P 141 72 = some (.getfield 167, 3) := by decide +kernel
theorem kp_141_167 : x_pool k_P 141 167 = (1, 9, 8) := by decide +kernel
theorem kx_141_75 : x_code k_P 141 75 = some (.iload_n 2, 1) := by decide +kernel
theorem kx_141_76 : x_code k_P 141 76 = some (.iaload, 1) := by decide +kernel
theorem kx_141_77 : x_code k_P 141 77 = some (.iload_n 3, 1) := by decide +kernel
theorem kx_141_78 : x_code k_P 141 78 = some (.invokestatic 160, 3) := by decide +kernel
theorem kp_141_160 : x_pool k_P 141 160 = (6, 166, 2) := by decide +kernel
theorem kcl_166 : x_maxL k_P 166 ≤ 60 ∧ 2 ≤ x_maxL k_P 166 := by decide +kernel
theorem kx_141_81 : x_code k_P 141 81 = some (.ireturn, 1) := by decide +kernel
theorem kx_141_15 : x_code k_P 141 15 = some (.aload_n 0, 1) := by decide +kernel
theorem kx_141_16 : x_code k_P 141 16 = some (.getfield 26, 3) := by decide +kernel
theorem kx_141_19 : x_code k_P 141 19 = some (.getfield 120, 3) := by decide +kernel
theorem kx_141_22 : x_code k_P 141 22 = some (.iload_n 2, 1) := by decide +kernel
theorem kx_141_23 : x_code k_P 141 23 = some (.invokevirtual 153, 3) := by decide +kernel
theorem kp_141_153 : x_pool k_P 141 153 = (2, 106, 1) := by decide +kernel
theorem kx_141_26 : x_code k_P 141 26 = some (.ifCond .eq 20, 3) := by decide +kernel
theorem kx_141_29 : x_code k_P 141 29 = some (.aload_n 0, 1) := by decide +kernel
theorem kx_141_30 : x_code k_P 141 30 = some (.getfield 26, 3) := by decide +kernel
theorem kx_141_33 : x_code k_P 141 33 = some (.getfield 120, 3) := by decide +kernel
theorem kx_141_36 : x_code k_P 141 36 = some (.getfield 157, 3) := by decide +kernel
theorem kp_141_157 : x_pool k_P 141 157 = (1, 9, 4) := by decide +kernel
theorem kx_141_39 : x_code k_P 141 39 = some (.iload_n 2, 1) := by decide +kernel
theorem kx_141_40 : x_code k_P 141 40 = some (.iaload, 1) := by decide +kernel
theorem kx_141_41 : x_code k_P 141 41 = some (.iload_n 3, 1) := by decide +kernel
theorem kx_141_42 : x_code k_P 141 42 = some (.invokestatic 160, 3) := by decide +kernel
theorem kx_141_45 : x_code k_P 141 45 = some (.ireturn, 1) := by decide +kernel
theorem m_141 {xs : Nat → Int} {Ln d : Nat} {T : List cK} {M : cM} (hT : TT T) (hI : Rng M) {t : Nat} (ht : t = 8 ∨ t = 25) (h70 : M 7 0 = ((t : Nat) : Int)) {kind which k : Int} : cC k_P xs Ln (d + 1) 141 [rf 0, (0, kind), (0, which), (0, k)] (T, M) (qF T M 0 (fun v => True)) := by
  show cP k_P xs Ln (d + 1) 141 0 [(0, rf 0), (1, (0, kind)), (2, (0, which)), (3, (0, k))] [] (T, M) _
  refine s_iload_n kx_141_0 rfl ?_
  refine s_if_lt (t := 9) kx_141_1 (by decide) (fun hc1 => ?_) (fun hc1 => ?_)
  · refine s_iconst (v := (-1)) kx_141_9 (by decide) ?_
    exact s_iret kx_141_10 (Or.inl kq_141) ⟨_, rfl, rfl, trivial⟩
  · refine s_iload_n kx_141_4 rfl ?_
    refine s_iconst (v := 5) kx_141_5 (by decide) ?_
    refine s_icmp_le (t := 11) kx_141_6 (by decide) (fun hc2 => ?_) (fun hc2 => ?_)
    · refine s_iload_n kx_141_11 rfl ?_
      refine s_if_ne (t := 46) kx_141_12 (by decide) (fun hc3 => ?_) (fun hc3 => ?_)
      · refine s_iload_n kx_141_46 rfl ?_
        refine s_iconst (v := 1) kx_141_47 (by decide) ?_
        refine s_icmp_ne (t := 82) kx_141_48 (by decide) (fun hc4 => ?_) (fun hc4 => ?_)
        · refine s_iconst (v := (-1)) kx_141_82 (by decide) ?_
          exact s_iret kx_141_83 (Or.inl kq_141) ⟨_, rfl, rfl, trivial⟩
        · refine s_aload_n kx_141_51 rfl ?_
          refine r_getR (k := 0) (f := 2) (k2 := 7) kx_141_52 kp_141_26 (tk_0 hT) kf_11_2 (by decide) (rq_0_2 hI) ?_
          refine r_getR (k := 7) (f := 0) (k2 := t) kx_141_55 kp_141_120 (tk_7 hT) kf_5_0 (by decide) h70 ?_
          refine s_iload_n kx_141_58 rfl ?_
          refine s_callV2 (k := t) (s1 := 2) (s2 := 0) (as := [(0, which)]) (rest := []) kx_141_59 kp_141_164 (Or.inl rfl) rfl (tkt_0 hT ht) ki_107 kcl_107 rfl rfl (by decide) (m_107 (d := d) (person := which) hT hI ht) (kF (fun v5 v5p => ?_))
          refine s_if_eq (t := 82) kx_141_62 (by decide) (fun hc6 => ?_) (fun hc6 => ?_)
          · replace v5p := v5p.resolve_left (by omega)
            refine s_iconst (v := (-1)) kx_141_82 (by decide) ?_
            exact s_iret kx_141_83 (Or.inl kq_141) ⟨_, rfl, rfl, trivial⟩
          · replace v5p := v5p.resolve_right (by omega)
            refine s_aload_n kx_141_65 rfl ?_
            refine r_getR (k := 0) (f := 2) (k2 := 7) kx_141_66 kp_141_26 (tk_0 hT) kf_11_2 (by decide) (rq_0_2 hI) ?_
            refine r_getR (k := 7) (f := 0) (k2 := t) kx_141_69 kp_141_120 (tk_7 hT) kf_5_0 (by decide) h70 ?_
            refine r_getR (k := t) (f := 8) (k2 := (t + 5)) kx_141_72 kp_141_167 (tkt_0 hT ht) kf_9_8 (by decide) (rqt_8 hI ht) ?_
            refine s_iload_n kx_141_75 rfl ?_
            refine r_aldU (k := (t + 5)) kx_141_76 (tkt_5 hT ht) ⟨by omega, by omega⟩ (fun v7 v7e => ?_)
            refine s_iload_n kx_141_77 rfl ?_
            refine s_callS2 (s1 := 2) (s2 := 0) (as := [(0, k), (0, v7)]) (rest := []) kx_141_78 kp_141_160 rfl kcl_166 rfl rfl (by decide) (m_166 (d := d) (name := v7) (k := k) hT hI) (kF (fun v8 v8p => ?_))
            exact s_iret kx_141_81 (Or.inl kq_141) ⟨_, rfl, rfl, trivial⟩
      · refine s_aload_n kx_141_15 rfl ?_
        refine r_getR (k := 0) (f := 2) (k2 := 7) kx_141_16 kp_141_26 (tk_0 hT) kf_11_2 (by decide) (rq_0_2 hI) ?_
        refine r_getR (k := 7) (f := 0) (k2 := t) kx_141_19 kp_141_120 (tk_7 hT) kf_5_0 (by decide) h70 ?_
        refine s_iload_n kx_141_22 rfl ?_
        refine s_callV2 (k := t) (s1 := 2) (s2 := 0) (as := [(0, which)]) (rest := []) kx_141_23 kp_141_153 (Or.inl rfl) rfl (tkt_0 hT ht) ki_106 kcl_106 rfl rfl (by decide) (m_106 (d := d) (room := which) hT hI ht) (kF (fun v9 v9p => ?_))
        refine s_if_eq (t := 46) kx_141_26 (by decide) (fun hc10 => ?_) (fun hc10 => ?_)
        · replace v9p := v9p.resolve_left (by omega)
          refine s_iload_n kx_141_46 rfl ?_
          refine s_iconst (v := 1) kx_141_47 (by decide) ?_
          refine s_icmp_ne (t := 82) kx_141_48 (by decide) (fun hc11 => ?_) (fun hc11 => absurd hc11 (by omega))
          refine s_iconst (v := (-1)) kx_141_82 (by decide) ?_
          exact s_iret kx_141_83 (Or.inl kq_141) ⟨_, rfl, rfl, trivial⟩
        · replace v9p := v9p.resolve_right (by omega)
          refine s_aload_n kx_141_29 rfl ?_
          refine r_getR (k := 0) (f := 2) (k2 := 7) kx_141_30 kp_141_26 (tk_0 hT) kf_11_2 (by decide) (rq_0_2 hI) ?_
          refine r_getR (k := 7) (f := 0) (k2 := t) kx_141_33 kp_141_120 (tk_7 hT) kf_5_0 (by decide) h70 ?_
          refine r_getR (k := t) (f := 4) (k2 := (t + 1)) kx_141_36 kp_141_157 (tkt_0 hT ht) kf_9_4 (by decide) (rqt_4 hI ht) ?_
          refine s_iload_n kx_141_39 rfl ?_
          refine r_aldU (k := (t + 1)) kx_141_40 (tkt_1 hT ht) ⟨by omega, by omega⟩ (fun v12 v12e => ?_)
          refine s_iload_n kx_141_41 rfl ?_
          refine s_callS2 (s1 := 2) (s2 := 0) (as := [(0, k), (0, v12)]) (rest := []) kx_141_42 kp_141_160 rfl kcl_166 rfl rfl (by decide) (m_166 (d := d) (name := v12) (k := k) hT hI) (kF (fun v13 v13p => ?_))
          exact s_iret kx_141_45 (Or.inl kq_141) ⟨_, rfl, rfl, trivial⟩
    · refine s_iconst (v := (-1)) kx_141_9 (by decide) ?_
      exact s_iret kx_141_10 (Or.inl kq_141) ⟨_, rfl, rfl, trivial⟩
theorem kx_142_0 : x_code k_P 142 0 = some (.aload_n 0, 1) := by decide +kernel
theorem kx_142_1 : x_code k_P 142 1 = some (.getfield 26, 3) := by decide +kernel
theorem kp_142_26 : x_pool k_P 142 26 = (1, 11, 2) := by decide +kernel
theorem kx_142_4 : x_code k_P 142 4 = some (.getfield 120, 3) := by decide +kernel
theorem kp_142_120 : x_pool k_P 142 120 = (1, 5, 0) := by decide +kernel
theorem kx_142_7 : x_code k_P 142 7 = some (.iload_n 1, 1) := by decide +kernel
theorem kx_142_8 : x_code k_P 142 8 = some (.invokevirtual 153, 3) := by decide +kernel
theorem kp_142_153 : x_pool k_P 142 153 = (2, 106, 1) := by decide +kernel
theorem kx_142_11 : x_code k_P 142 11 = some (.ifCond .ne 5, 3) := by decide +kernel
theorem kx_142_16 : x_code k_P 142 16 = some (.iload_n 2, 1) := by decide +kernel
theorem kx_142_17 : x_code k_P 142 17 = some (.tableswitch 102 0 5 #[39, 52, 65, 75, 84, 93], 39) := by decide +kernel
theorem kx_142_56 : x_code k_P 142 56 = some (.aload_n 0, 1) := by decide +kernel
theorem kx_142_57 : x_code k_P 142 57 = some (.getfield 26, 3) := by decide +kernel
theorem kx_142_60 : x_code k_P 142 60 = some (.getfield 120, 3) := by decide +kernel
theorem kx_142_63 : x_code k_P 142 63 = some (.getfield 170, 3) := by decide +kernel
theorem kp_142_170 : x_pool k_P 142 170 = (1, 9, 5) := by decide +kernel
theorem kx_142_66 : x_code k_P 142 66 = some (.iload_n 1, 1) := by decide +kernel
theorem kx_142_67 : x_code k_P 142 67 = some (.iaload, 1) := by decide +kernel
theorem kx_142_68 : x_code k_P 142 68 = some (.ireturn, 1) := by decide +kernel
theorem kq_142 : x_retk k_P 142 = 1 := by decide +kernel
theorem kx_142_69 : x_code k_P 142 69 = some (.aload_n 0, 1) := by decide +kernel
theorem kx_142_70 : x_code k_P 142 70 = some (.getfield 26, 3) := by decide +kernel
theorem kx_142_73 : x_code k_P 142 73 = some (.getfield 120, 3) := by decide +kernel
theorem kx_142_76 : x_code k_P 142 76 = some (.getfield 173, 3) := by decide +kernel
theorem kp_142_173 : x_pool k_P 142 173 = (1, 9, 6) := by decide +kernel
theorem kx_142_79 : x_code k_P 142 79 = some (.iload_n 1, 1) := by decide +kernel
theorem kx_142_80 : x_code k_P 142 80 = some (.iaload, 1) := by decide +kernel
theorem kx_142_81 : x_code k_P 142 81 = some (.ireturn, 1) := by decide +kernel
theorem kx_142_82 : x_code k_P 142 82 = some (.aload_n 0, 1) := by decide +kernel
theorem kx_142_83 : x_code k_P 142 83 = some (.getfield 26, 3) := by decide +kernel
theorem kx_142_86 : x_code k_P 142 86 = some (.iload_n 1, 1) := by decide +kernel
theorem kx_142_87 : x_code k_P 142 87 = some (.iconst (-1), 1) := by decide +kernel
theorem kx_142_88 : x_code k_P 142 88 = some (.invokevirtual 176, 3) := by decide +kernel
theorem kp_142_176 : x_pool k_P 142 176 = (2, 56, 2) := by decide +kernel
theorem kx_142_91 : x_code k_P 142 91 = some (.ireturn, 1) := by decide +kernel
theorem kx_142_92 : x_code k_P 142 92 = some (.aload_n 0, 1) := by decide +kernel
theorem kx_142_93 : x_code k_P 142 93 = some (.getfield 26, 3) := by decide +kernel
theorem kx_142_96 : x_code k_P 142 96 = some (.iload_n 1, 1) := by decide +kernel
theorem kx_142_97 : x_code k_P 142 97 = some (.invokevirtual 179, 3) := by decide +kernel
theorem kp_142_179 : x_pool k_P 142 179 = (2, 53, 1) := by decide +kernel
theorem ki_53 : x_mci k_P 53 = 5 := by decide +kernel
theorem kcl_53 : x_maxL k_P 53 ≤ 60 ∧ 2 ≤ x_maxL k_P 53 := by decide +kernel
theorem kx_142_100 : x_code k_P 142 100 = some (.ireturn, 1) := by decide +kernel
theorem kx_142_101 : x_code k_P 142 101 = some (.aload_n 0, 1) := by decide +kernel
theorem kx_142_102 : x_code k_P 142 102 = some (.getfield 26, 3) := by decide +kernel
theorem kx_142_105 : x_code k_P 142 105 = some (.iload_n 1, 1) := by decide +kernel
theorem kx_142_106 : x_code k_P 142 106 = some (.invokevirtual 182, 3) := by decide +kernel
theorem kp_142_182 : x_pool k_P 142 182 = (2, 54, 1) := by decide +kernel
theorem ki_54 : x_mci k_P 54 = 5 := by decide +kernel
theorem kcl_54 : x_maxL k_P 54 ≤ 60 ∧ 2 ≤ x_maxL k_P 54 := by decide +kernel
theorem kx_142_109 : x_code k_P 142 109 = some (.ireturn, 1) := by decide +kernel
theorem kx_142_110 : x_code k_P 142 110 = some (.aload_n 0, 1) := by decide +kernel
theorem kx_142_111 : x_code k_P 142 111 = some (.getfield 26, 3) := by decide +kernel
theorem kx_142_114 : x_code k_P 142 114 = some (.iload_n 1, 1) := by decide +kernel
theorem kx_142_115 : x_code k_P 142 115 = some (.invokevirtual 185, 3) := by decide +kernel
theorem kp_142_185 : x_pool k_P 142 185 = (2, 55, 1) := by decide +kernel
theorem ki_55 : x_mci k_P 55 = 5 := by decide +kernel
theorem kcl_55 : x_maxL k_P 55 ≤ 60 ∧ 2 ≤ x_maxL k_P 55 := by decide +kernel
theorem kx_142_118 : x_code k_P 142 118 = some (.ireturn, 1) := by decide +kernel
theorem kx_142_119 : x_code k_P 142 119 = some (.iconst (-1), 1) := by decide +kernel
theorem kx_142_120 : x_code k_P 142 120 = some (.ireturn, 1) := by decide +kernel
theorem kx_142_14 : x_code k_P 142 14 = some (.iconst (-1), 1) := by decide +kernel
theorem kx_142_15 : x_code k_P 142 15 = some (.ireturn, 1) := by decide +kernel
theorem m_142 {xs : Nat → Int} {Ln d : Nat} {T : List cK} {M : cM} (hT : TT T) (hI : Rng M) {t : Nat} (ht : t = 8 ∨ t = 25) (h70 : M 7 0 = ((t : Nat) : Int)) {room what : Int} : cC k_P xs Ln (d + 4) 142 [rf 0, (0, room), (0, what)] (T, M) (qF T M 0 (fun v => True)) := by
  show cP k_P xs Ln (d + 4) 142 0 [(0, rf 0), (1, (0, room)), (2, (0, what))] [] (T, M) _
  refine s_aload_n kx_142_0 rfl ?_
  refine r_getR (k := 0) (f := 2) (k2 := 7) kx_142_1 kp_142_26 (tk_0 hT) kf_11_2 (by decide) (rq_0_2 hI) ?_
  refine r_getR (k := 7) (f := 0) (k2 := t) kx_142_4 kp_142_120 (tk_7 hT) kf_5_0 (by decide) h70 ?_
  refine s_iload_n kx_142_7 rfl ?_
  refine s_callV2 (k := t) (s1 := 2) (s2 := 0) (as := [(0, room)]) (rest := []) kx_142_8 kp_142_153 (Or.inl rfl) rfl (tkt_0 hT ht) ki_106 kcl_106 rfl rfl (by decide) (m_106 (d := d + 3) (room := room) hT hI ht) (kF (fun v1 v1p => ?_))
  refine s_if_ne (t := 16) kx_142_11 (by decide) (fun hc2 => ?_) (fun hc2 => ?_)
  · replace v1p := v1p.resolve_right (by omega)
    refine s_iload_n kx_142_16 rfl ?_
    rcases (by omega : what = 0 ∨ what = 1 ∨ what = 2 ∨ what = 3 ∨ what = 4 ∨ what = 5 ∨ (what < 0 ∨ 5 < what)) with hs3 | hs3 | hs3 | hs3 | hs3 | hs3 | hs3
    · refine s_tsw (t := 56) kx_142_17 (by decide) 0 hs3 (by decide) ?_
      refine s_aload_n kx_142_56 rfl ?_
      refine r_getR (k := 0) (f := 2) (k2 := 7) kx_142_57 kp_142_26 (tk_0 hT) kf_11_2 (by decide) (rq_0_2 hI) ?_
      refine r_getR (k := 7) (f := 0) (k2 := t) kx_142_60 kp_142_120 (tk_7 hT) kf_5_0 (by decide) h70 ?_
      refine r_getR (k := t) (f := 5) (k2 := (t + 2)) kx_142_63 kp_142_170 (tkt_0 hT ht) kf_9_5 (by decide) (rqt_5 hI ht) ?_
      refine s_iload_n kx_142_66 rfl ?_
      refine r_aldU (k := (t + 2)) kx_142_67 (tkt_2 hT ht) ⟨by omega, by omega⟩ (fun v4 v4e => ?_)
      exact s_iret kx_142_68 (Or.inl kq_142) ⟨_, rfl, rfl, trivial⟩
    · refine s_tsw (t := 69) kx_142_17 (by decide) 1 hs3 (by decide) ?_
      refine s_aload_n kx_142_69 rfl ?_
      refine r_getR (k := 0) (f := 2) (k2 := 7) kx_142_70 kp_142_26 (tk_0 hT) kf_11_2 (by decide) (rq_0_2 hI) ?_
      refine r_getR (k := 7) (f := 0) (k2 := t) kx_142_73 kp_142_120 (tk_7 hT) kf_5_0 (by decide) h70 ?_
      refine r_getR (k := t) (f := 6) (k2 := (t + 3)) kx_142_76 kp_142_173 (tkt_0 hT ht) kf_9_6 (by decide) (rqt_6 hI ht) ?_
      refine s_iload_n kx_142_79 rfl ?_
      refine r_aldU (k := (t + 3)) kx_142_80 (tkt_3 hT ht) ⟨by omega, by omega⟩ (fun v5 v5e => ?_)
      exact s_iret kx_142_81 (Or.inl kq_142) ⟨_, rfl, rfl, trivial⟩
    · refine s_tsw (t := 82) kx_142_17 (by decide) 2 hs3 (by decide) ?_
      refine s_aload_n kx_142_82 rfl ?_
      refine r_getR (k := 0) (f := 2) (k2 := 7) kx_142_83 kp_142_26 (tk_0 hT) kf_11_2 (by decide) (rq_0_2 hI) ?_
      refine s_iload_n kx_142_86 rfl ?_
      refine s_iconst (v := (-1)) kx_142_87 (by decide) ?_
      refine s_callV2 (k := 7) (s1 := 3) (s2 := 0) (as := [(0, (-1)), (0, room)]) (rest := []) kx_142_88 kp_142_176 (Or.inl rfl) rfl (tk_7 hT) ki_56 kcl_56 rfl rfl (by decide) (m_56 (d := d + 2) (room := room) (without := (-1)) hT hI ht h70) (kF (fun v6 v6p => ?_))
      exact s_iret kx_142_91 (Or.inl kq_142) ⟨_, rfl, rfl, trivial⟩
    · refine s_tsw (t := 92) kx_142_17 (by decide) 3 hs3 (by decide) ?_
      refine s_aload_n kx_142_92 rfl ?_
      refine r_getR (k := 0) (f := 2) (k2 := 7) kx_142_93 kp_142_26 (tk_0 hT) kf_11_2 (by decide) (rq_0_2 hI) ?_
      refine s_iload_n kx_142_96 rfl ?_
      refine s_callV2 (k := 7) (s1 := 2) (s2 := 0) (as := [(0, room)]) (rest := []) kx_142_97 kp_142_179 (Or.inl rfl) rfl (tk_7 hT) ki_53 kcl_53 rfl rfl (by decide) (m_53 (d := d + 2) (room := room) hT hI ht h70) (kF (fun v7 v7p => ?_))
      exact s_iret kx_142_100 (Or.inl kq_142) ⟨_, rfl, rfl, trivial⟩
    · refine s_tsw (t := 101) kx_142_17 (by decide) 4 hs3 (by decide) ?_
      refine s_aload_n kx_142_101 rfl ?_
      refine r_getR (k := 0) (f := 2) (k2 := 7) kx_142_102 kp_142_26 (tk_0 hT) kf_11_2 (by decide) (rq_0_2 hI) ?_
      refine s_iload_n kx_142_105 rfl ?_
      refine s_callV2 (k := 7) (s1 := 2) (s2 := 0) (as := [(0, room)]) (rest := []) kx_142_106 kp_142_182 (Or.inl rfl) rfl (tk_7 hT) ki_54 kcl_54 rfl rfl (by decide) (m_54 (d := d + 2) (room := room) hT hI ht h70) (kF (fun v8 v8p => ?_))
      exact s_iret kx_142_109 (Or.inl kq_142) ⟨_, rfl, rfl, trivial⟩
    · refine s_tsw (t := 110) kx_142_17 (by decide) 5 hs3 (by decide) ?_
      refine s_aload_n kx_142_110 rfl ?_
      refine r_getR (k := 0) (f := 2) (k2 := 7) kx_142_111 kp_142_26 (tk_0 hT) kf_11_2 (by decide) (rq_0_2 hI) ?_
      refine s_iload_n kx_142_114 rfl ?_
      refine s_callV2 (k := 7) (s1 := 2) (s2 := 0) (as := [(0, room)]) (rest := []) kx_142_115 kp_142_185 (Or.inl rfl) rfl (tk_7 hT) ki_55 kcl_55 rfl rfl (by decide) (m_55 (d := d) (room := room) hT hI ht h70) (kF (fun v9 v9p => ?_))
      exact s_iret kx_142_118 (Or.inl kq_142) ⟨_, rfl, rfl, trivial⟩
    · refine s_tswD (t := 119) kx_142_17 (by decide) hs3 (by decide) ?_
      refine s_iconst (v := (-1)) kx_142_119 (by decide) ?_
      exact s_iret kx_142_120 (Or.inl kq_142) ⟨_, rfl, rfl, trivial⟩
  · replace v1p := v1p.resolve_left (by omega)
    refine s_iconst (v := (-1)) kx_142_14 (by decide) ?_
    exact s_iret kx_142_15 (Or.inl kq_142) ⟨_, rfl, rfl, trivial⟩
theorem kx_143_0 : x_code k_P 143 0 = some (.aload_n 0, 1) := by decide +kernel
theorem kx_143_1 : x_code k_P 143 1 = some (.getfield 26, 3) := by decide +kernel
theorem kp_143_26 : x_pool k_P 143 26 = (1, 11, 2) := by decide +kernel
theorem kx_143_4 : x_code k_P 143 4 = some (.getfield 120, 3) := by decide +kernel
theorem kp_143_120 : x_pool k_P 143 120 = (1, 5, 0) := by decide +kernel
theorem kx_143_7 : x_code k_P 143 7 = some (.iload_n 1, 1) := by decide +kernel
theorem kx_143_8 : x_code k_P 143 8 = some (.iload_n 2, 1) := by decide +kernel
theorem kx_143_9 : x_code k_P 143 9 = some (.invokevirtual 188, 3) := by decide +kernel
theorem kp_143_188 : x_pool k_P 143 188 = (2, 117, 2) := by decide +kernel
theorem kx_143_12 : x_code k_P 143 12 = some (.istore_n 3, 1) := by decide +kernel
theorem km_143_3 : 3 < x_maxL k_P 143 := by decide +kernel
theorem kx_143_13 : x_code k_P 143 13 = some (.iload_n 3, 1) := by decide +kernel
theorem kx_143_14 : x_code k_P 143 14 = some (.ifCond .le 7, 3) := by decide +kernel
theorem kx_143_21 : x_code k_P 143 21 = some (.iconst (-1), 1) := by decide +kernel
theorem kx_143_22 : x_code k_P 143 22 = some (.ireturn, 1) := by decide +kernel
theorem kq_143 : x_retk k_P 143 = 1 := by decide +kernel
theorem kx_143_17 : x_code k_P 143 17 = some (.iload_n 3, 1) := by decide +kernel
theorem kx_143_18 : x_code k_P 143 18 = some (.goto 4, 3) := by decide +kernel
theorem m_143 {xs : Nat → Int} {Ln d : Nat} {T : List cK} {M : cM} (hT : TT T) (hI : Rng M) {t : Nat} (ht : t = 8 ∨ t = 25) (h70 : M 7 0 = ((t : Nat) : Int)) {a b : Int} : cC k_P xs Ln (d + 2) 143 [rf 0, (0, a), (0, b)] (T, M) (qF T M 0 (fun v => True)) := by
  show cP k_P xs Ln (d + 2) 143 0 [(0, rf 0), (1, (0, a)), (2, (0, b))] [] (T, M) _
  refine s_aload_n kx_143_0 rfl ?_
  refine r_getR (k := 0) (f := 2) (k2 := 7) kx_143_1 kp_143_26 (tk_0 hT) kf_11_2 (by decide) (rq_0_2 hI) ?_
  refine r_getR (k := 7) (f := 0) (k2 := t) kx_143_4 kp_143_120 (tk_7 hT) kf_5_0 (by decide) h70 ?_
  refine s_iload_n kx_143_7 rfl ?_
  refine s_iload_n kx_143_8 rfl ?_
  refine s_callV2 (k := t) (s1 := 3) (s2 := 0) (as := [(0, b), (0, a)]) (rest := []) kx_143_9 kp_143_188 (Or.inl rfl) rfl (tkt_0 hT ht) ki_117 kcl_117 rfl rfl (by decide) (m_117 (d := d) (a := a) (b := b) hT hI ht) (kF (fun v1 v1p => ?_))
  refine s_istore_n kx_143_12 km_143_3 rfl ?_
  refine s_iload_n kx_143_13 rfl ?_
  refine s_if_le (t := 21) kx_143_14 (by decide) (fun hc2 => ?_) (fun hc2 => ?_)
  · refine s_iconst (v := (-1)) kx_143_21 (by decide) ?_
    exact s_iret kx_143_22 (Or.inl kq_143) ⟨_, rfl, rfl, trivial⟩
  · refine s_iload_n kx_143_17 rfl ?_
    refine s_goto (t := 22) kx_143_18 (by decide) ?_
    exact s_iret kx_143_22 (Or.inl kq_143) ⟨_, rfl, rfl, trivial⟩
theorem kx_144_0 : x_code k_P 144 0 = some (.aload_n 0, 1) := by decide +kernel
theorem kx_144_1 : x_code k_P 144 1 = some (.getfield 26, 3) := by decide +kernel
theorem kp_144_26 : x_pool k_P 144 26 = (1, 11, 2) := by decide +kernel
theorem kx_144_4 : x_code k_P 144 4 = some (.getfield 120, 3) := by decide +kernel
theorem kp_144_120 : x_pool k_P 144 120 = (1, 5, 0) := by decide +kernel
theorem kx_144_7 : x_code k_P 144 7 = some (.iload_n 1, 1) := by decide +kernel
theorem kx_144_8 : x_code k_P 144 8 = some (.invokevirtual 164, 3) := by decide +kernel
theorem kp_144_164 : x_pool k_P 144 164 = (2, 107, 1) := by decide +kernel
theorem kx_144_11 : x_code k_P 144 11 = some (.ifCond .ne 5, 3) := by decide +kernel
theorem kx_144_16 : x_code k_P 144 16 = some (.iload_n 2, 1) := by decide +kernel
theorem kx_144_17 : x_code k_P 144 17 = some (.tableswitch 193 0 10 #[59, 68, 77, 94, 111, 120, 129, 142, 155, 168, 181], 59) := by decide +kernel
theorem kx_144_76 : x_code k_P 144 76 = some (.aload_n 0, 1) := by decide +kernel
theorem kx_144_77 : x_code k_P 144 77 = some (.getfield 26, 3) := by decide +kernel
theorem kx_144_80 : x_code k_P 144 80 = some (.iload_n 1, 1) := by decide +kernel
theorem kx_144_81 : x_code k_P 144 81 = some (.invokevirtual 191, 3) := by decide +kernel
theorem kp_144_191 : x_pool k_P 144 191 = (2, 43, 1) := by decide +kernel
theorem kx_144_84 : x_code k_P 144 84 = some (.ireturn, 1) := by decide +kernel
theorem kq_144 : x_retk k_P 144 = 1 := by decide +kernel
theorem kx_144_85 : x_code k_P 144 85 = some (.aload_n 0, 1) := by decide +kernel
theorem kx_144_86 : x_code k_P 144 86 = some (.getfield 26, 3) := by decide +kernel
theorem kx_144_89 : x_code k_P 144 89 = some (.iload_n 1, 1) := by decide +kernel
theorem kx_144_90 : x_code k_P 144 90 = some (.invokevirtual 194, 3) := by decide +kernel
theorem kp_144_194 : x_pool k_P 144 194 = (2, 44, 1) := by decide +kernel
theorem kx_144_93 : x_code k_P 144 93 = some (.ireturn, 1) := by decide +kernel
theorem kx_144_94 : x_code k_P 144 94 = some (.aload_n 0, 1) := by decide +kernel
theorem kx_144_95 : x_code k_P 144 95 = some (.getfield 26, 3) := by decide +kernel
theorem kx_144_98 : x_code k_P 144 98 = some (.iload_n 1, 1) := by decide +kernel
theorem kx_144_99 : x_code k_P 144 99 = some (.invokevirtual 197, 3) := by decide +kernel
theorem kp_144_197 : x_pool k_P 144 197 = (2, 45, 1) := by decide +kernel
theorem kx_144_102 : x_code k_P 144 102 = some (.ifCond .eq 7, 3) := by decide +kernel
theorem kx_144_109 : x_code k_P 144 109 = some (.iconst 0, 1) := by decide +kernel
theorem kx_144_110 : x_code k_P 144 110 = some (.ireturn, 1) := by decide +kernel
theorem kx_144_105 : x_code k_P 144 105 = some (.iconst 1, 1) := by decide +kernel
theorem kx_144_106 : x_code k_P 144 106 = some (.goto 4, 3) := by decide +kernel
theorem kx_144_111 : x_code k_P 144 111 = some (.aload_n 0, 1) := by decide +kernel
theorem kx_144_112 : x_code k_P 144 112 = some (.getfield 26, 3) := by decide +kernel
theorem kx_144_115 : x_code k_P 144 115 = some (.iload_n 1, 1) := by decide +kernel
theorem kx_144_116 : x_code k_P 144 116 = some (.invokevirtual 200, 3) := by decide +kernel
theorem kp_144_200 : x_pool k_P 144 200 = (2, 58, 1) := by decide +kernel
theorem kx_144_119 : x_code k_P 144 119 = some (.ifCond .eq 7, 3) := by decide +kernel
theorem kx_144_126 : x_code k_P 144 126 = some (.iconst 0, 1) := by decide +kernel
theorem kx_144_127 : x_code k_P 144 127 = some (.ireturn, 1) := by decide +kernel
theorem kx_144_122 : x_code k_P 144 122 = some (.iconst 1, 1) := by decide +kernel
theorem kx_144_123 : x_code k_P 144 123 = some (.goto 4, 3) := by decide +kernel
theorem kx_144_128 : x_code k_P 144 128 = some (.aload_n 0, 1) := by decide +kernel
theorem kx_144_129 : x_code k_P 144 129 = some (.getfield 26, 3) := by decide +kernel
theorem kx_144_132 : x_code k_P 144 132 = some (.iload_n 1, 1) := by decide +kernel
theorem kx_144_133 : x_code k_P 144 133 = some (.invokevirtual 203, 3) := by decide +kernel
theorem kp_144_203 : x_pool k_P 144 203 = (2, 46, 1) := by decide +kernel
theorem kx_144_136 : x_code k_P 144 136 = some (.ireturn, 1) := by decide +kernel
theorem kx_144_137 : x_code k_P 144 137 = some (.aload_n 0, 1) := by decide +kernel
theorem kx_144_138 : x_code k_P 144 138 = some (.getfield 26, 3) := by decide +kernel
theorem kx_144_141 : x_code k_P 144 141 = some (.iload_n 1, 1) := by decide +kernel
theorem kx_144_142 : x_code k_P 144 142 = some (.invokevirtual 206, 3) := by decide +kernel
theorem kp_144_206 : x_pool k_P 144 206 = (2, 47, 1) := by decide +kernel
theorem kx_144_145 : x_code k_P 144 145 = some (.ireturn, 1) := by decide +kernel
theorem kx_144_146 : x_code k_P 144 146 = some (.aload_n 0, 1) := by decide +kernel
theorem kx_144_147 : x_code k_P 144 147 = some (.getfield 26, 3) := by decide +kernel
theorem kx_144_150 : x_code k_P 144 150 = some (.getfield 120, 3) := by decide +kernel
theorem kx_144_153 : x_code k_P 144 153 = some (.getfield 209, 3) := by decide +kernel
theorem kp_144_209 : x_pool k_P 144 209 = (1, 9, 12) := by decide +kernel
theorem kx_144_156 : x_code k_P 144 156 = some (.iload_n 1, 1) := by decide +kernel
theorem kx_144_157 : x_code k_P 144 157 = some (.iaload, 1) := by decide +kernel
theorem kx_144_158 : x_code k_P 144 158 = some (.ireturn, 1) := by decide +kernel
theorem kx_144_159 : x_code k_P 144 159 = some (.aload_n 0, 1) := by decide +kernel
theorem kx_144_160 : x_code k_P 144 160 = some (.getfield 26, 3) := by decide +kernel
theorem kx_144_163 : x_code k_P 144 163 = some (.getfield 120, 3) := by decide +kernel
theorem kx_144_166 : x_code k_P 144 166 = some (.getfield 212, 3) := by decide +kernel
theorem kp_144_212 : x_pool k_P 144 212 = (1, 9, 9) := by decide +kernel
theorem kx_144_169 : x_code k_P 144 169 = some (.iload_n 1, 1) := by decide +kernel
theorem kx_144_170 : x_code k_P 144 170 = some (.iaload, 1) := by decide +kernel
theorem kx_144_171 : x_code k_P 144 171 = some (.ireturn, 1) := by decide +kernel
theorem kx_144_172 : x_code k_P 144 172 = some (.aload_n 0, 1) := by decide +kernel
theorem kx_144_173 : x_code k_P 144 173 = some (.getfield 26, 3) := by decide +kernel
theorem kx_144_176 : x_code k_P 144 176 = some (.getfield 120, 3) := by decide +kernel
theorem kx_144_179 : x_code k_P 144 179 = some (.getfield 215, 3) := by decide +kernel
theorem kp_144_215 : x_pool k_P 144 215 = (1, 9, 10) := by decide +kernel
theorem kx_144_182 : x_code k_P 144 182 = some (.iload_n 1, 1) := by decide +kernel
theorem kx_144_183 : x_code k_P 144 183 = some (.iaload, 1) := by decide +kernel
theorem kx_144_184 : x_code k_P 144 184 = some (.ireturn, 1) := by decide +kernel
theorem kx_144_185 : x_code k_P 144 185 = some (.aload_n 0, 1) := by decide +kernel
theorem kx_144_186 : x_code k_P 144 186 = some (.getfield 26, 3) := by decide +kernel
theorem kx_144_189 : x_code k_P 144 189 = some (.getfield 120, 3) := by decide +kernel
theorem kx_144_192 : x_code k_P 144 192 = some (.getfield 218, 3) := by decide +kernel
theorem kp_144_218 : x_pool k_P 144 218 = (1, 9, 11) := by decide +kernel
theorem kx_144_195 : x_code k_P 144 195 = some (.iload_n 1, 1) := by decide +kernel
theorem kx_144_196 : x_code k_P 144 196 = some (.iaload, 1) := by decide +kernel
theorem kx_144_197 : x_code k_P 144 197 = some (.ireturn, 1) := by decide +kernel
theorem kx_144_198 : x_code k_P 144 198 = some (.aload_n 0, 1) := by decide +kernel
theorem kx_144_199 : x_code k_P 144 199 = some (.getfield 26, 3) := by decide +kernel
theorem kx_144_202 : x_code k_P 144 202 = some (.getfield 120, 3) := by decide +kernel
theorem kx_144_205 : x_code k_P 144 205 = some (.iload_n 1, 1) := by decide +kernel
theorem kx_144_206 : x_code k_P 144 206 = some (.invokevirtual 221, 3) := by decide +kernel
theorem kp_144_221 : x_pool k_P 144 221 = (2, 116, 1) := by decide +kernel
theorem kx_144_209 : x_code k_P 144 209 = some (.ireturn, 1) := by decide +kernel
theorem kx_144_210 : x_code k_P 144 210 = some (.iconst (-1), 1) := by decide +kernel
theorem kx_144_211 : x_code k_P 144 211 = some (.ireturn, 1) := by decide +kernel
theorem kx_144_14 : x_code k_P 144 14 = some (.iconst (-1), 1) := by decide +kernel
theorem kx_144_15 : x_code k_P 144 15 = some (.ireturn, 1) := by decide +kernel
theorem m_144 {xs : Nat → Int} {Ln d : Nat} {T : List cK} {M : cM} (hT : TT T) (hI : Rng M) {t : Nat} (ht : t = 8 ∨ t = 25) (h70 : M 7 0 = ((t : Nat) : Int)) {person what : Int} : cC k_P xs Ln (d + 3) 144 [rf 0, (0, person), (0, what)] (T, M) (qF T M 0 (fun v => True)) := by
  show cP k_P xs Ln (d + 3) 144 0 [(0, rf 0), (1, (0, person)), (2, (0, what))] [] (T, M) _
  refine s_aload_n kx_144_0 rfl ?_
  refine r_getR (k := 0) (f := 2) (k2 := 7) kx_144_1 kp_144_26 (tk_0 hT) kf_11_2 (by decide) (rq_0_2 hI) ?_
  refine r_getR (k := 7) (f := 0) (k2 := t) kx_144_4 kp_144_120 (tk_7 hT) kf_5_0 (by decide) h70 ?_
  refine s_iload_n kx_144_7 rfl ?_
  refine s_callV2 (k := t) (s1 := 2) (s2 := 0) (as := [(0, person)]) (rest := []) kx_144_8 kp_144_164 (Or.inl rfl) rfl (tkt_0 hT ht) ki_107 kcl_107 rfl rfl (by decide) (m_107 (d := d + 2) (person := person) hT hI ht) (kF (fun v1 v1p => ?_))
  refine s_if_ne (t := 16) kx_144_11 (by decide) (fun hc2 => ?_) (fun hc2 => ?_)
  · replace v1p := v1p.resolve_right (by omega)
    refine s_iload_n kx_144_16 rfl ?_
    rcases (by omega : what = 0 ∨ what = 1 ∨ what = 2 ∨ what = 3 ∨ what = 4 ∨ what = 5 ∨ what = 6 ∨ what = 7 ∨ what = 8 ∨ what = 9 ∨ what = 10 ∨ (what < 0 ∨ 10 < what)) with hs3 | hs3 | hs3 | hs3 | hs3 | hs3 | hs3 | hs3 | hs3 | hs3 | hs3 | hs3
    · refine s_tsw (t := 76) kx_144_17 (by decide) 0 hs3 (by decide) ?_
      refine s_aload_n kx_144_76 rfl ?_
      refine r_getR (k := 0) (f := 2) (k2 := 7) kx_144_77 kp_144_26 (tk_0 hT) kf_11_2 (by decide) (rq_0_2 hI) ?_
      refine s_iload_n kx_144_80 rfl ?_
      refine s_callV2 (k := 7) (s1 := 2) (s2 := 0) (as := [(0, person)]) (rest := []) kx_144_81 kp_144_191 (Or.inl rfl) rfl (tk_7 hT) ki_43 kcl_43 rfl rfl (by decide) (m_43 (d := d + 2) (person := person) hT hI (by omega)) (kF (fun v4 v4p => ?_))
      exact s_iret kx_144_84 (Or.inl kq_144) ⟨_, rfl, rfl, trivial⟩
    · refine s_tsw (t := 85) kx_144_17 (by decide) 1 hs3 (by decide) ?_
      refine s_aload_n kx_144_85 rfl ?_
      refine r_getR (k := 0) (f := 2) (k2 := 7) kx_144_86 kp_144_26 (tk_0 hT) kf_11_2 (by decide) (rq_0_2 hI) ?_
      refine s_iload_n kx_144_89 rfl ?_
      refine s_callV2 (k := 7) (s1 := 2) (s2 := 0) (as := [(0, person)]) (rest := []) kx_144_90 kp_144_194 (Or.inl rfl) rfl (tk_7 hT) ki_44 kcl_44 rfl rfl (by decide) (m_44 (d := d + 2) (chair := person) hT hI (by omega)) (kF (fun v5 v5p => ?_))
      exact s_iret kx_144_93 (Or.inl kq_144) ⟨_, rfl, rfl, trivial⟩
    · refine s_tsw (t := 94) kx_144_17 (by decide) 2 hs3 (by decide) ?_
      refine s_aload_n kx_144_94 rfl ?_
      refine r_getR (k := 0) (f := 2) (k2 := 7) kx_144_95 kp_144_26 (tk_0 hT) kf_11_2 (by decide) (rq_0_2 hI) ?_
      refine s_iload_n kx_144_98 rfl ?_
      refine s_callV2 (k := 7) (s1 := 2) (s2 := 0) (as := [(0, person)]) (rest := []) kx_144_99 kp_144_197 (Or.inl rfl) rfl (tk_7 hT) ki_45 kcl_45 rfl rfl (by decide) (m_45 (d := d + 2) (chair := person) hT hI (by omega)) (kF (fun v6 v6p => ?_))
      refine s_if_eq (t := 109) kx_144_102 (by decide) (fun hc7 => ?_) (fun hc7 => ?_)
      · refine s_iconst (v := 0) kx_144_109 (by decide) ?_
        exact s_iret kx_144_110 (Or.inl kq_144) ⟨_, rfl, rfl, trivial⟩
      · refine s_iconst (v := 1) kx_144_105 (by decide) ?_
        refine s_goto (t := 110) kx_144_106 (by decide) ?_
        exact s_iret kx_144_110 (Or.inl kq_144) ⟨_, rfl, rfl, trivial⟩
    · refine s_tsw (t := 111) kx_144_17 (by decide) 3 hs3 (by decide) ?_
      refine s_aload_n kx_144_111 rfl ?_
      refine r_getR (k := 0) (f := 2) (k2 := 7) kx_144_112 kp_144_26 (tk_0 hT) kf_11_2 (by decide) (rq_0_2 hI) ?_
      refine s_iload_n kx_144_115 rfl ?_
      refine s_callV2 (k := 7) (s1 := 2) (s2 := 0) (as := [(0, person)]) (rest := []) kx_144_116 kp_144_200 (Or.inl rfl) rfl (tk_7 hT) ki_58 kcl_58 rfl rfl (by decide) (m_58 (d := d) (person := person) hT hI ht h70 (by omega)) (kF (fun v8 v8p => ?_))
      refine s_if_eq (t := 126) kx_144_119 (by decide) (fun hc9 => ?_) (fun hc9 => ?_)
      · refine s_iconst (v := 0) kx_144_126 (by decide) ?_
        exact s_iret kx_144_127 (Or.inl kq_144) ⟨_, rfl, rfl, trivial⟩
      · refine s_iconst (v := 1) kx_144_122 (by decide) ?_
        refine s_goto (t := 127) kx_144_123 (by decide) ?_
        exact s_iret kx_144_127 (Or.inl kq_144) ⟨_, rfl, rfl, trivial⟩
    · refine s_tsw (t := 128) kx_144_17 (by decide) 4 hs3 (by decide) ?_
      refine s_aload_n kx_144_128 rfl ?_
      refine r_getR (k := 0) (f := 2) (k2 := 7) kx_144_129 kp_144_26 (tk_0 hT) kf_11_2 (by decide) (rq_0_2 hI) ?_
      refine s_iload_n kx_144_132 rfl ?_
      refine s_callV2 (k := 7) (s1 := 2) (s2 := 0) (as := [(0, person)]) (rest := []) kx_144_133 kp_144_203 (Or.inl rfl) rfl (tk_7 hT) ki_46 kcl_46 rfl rfl (by decide) (m_46 (d := d + 2) (person := person) hT hI (by omega)) (kF (fun v10 v10p => ?_))
      exact s_iret kx_144_136 (Or.inl kq_144) ⟨_, rfl, rfl, trivial⟩
    · refine s_tsw (t := 137) kx_144_17 (by decide) 5 hs3 (by decide) ?_
      refine s_aload_n kx_144_137 rfl ?_
      refine r_getR (k := 0) (f := 2) (k2 := 7) kx_144_138 kp_144_26 (tk_0 hT) kf_11_2 (by decide) (rq_0_2 hI) ?_
      refine s_iload_n kx_144_141 rfl ?_
      refine s_callV2 (k := 7) (s1 := 2) (s2 := 0) (as := [(0, person)]) (rest := []) kx_144_142 kp_144_206 (Or.inl rfl) rfl (tk_7 hT) ki_47 kcl_47 rfl rfl (by decide) (m_47 (d := d + 2) (person := person) hT hI (by omega)) (kF (fun v11 v11p => ?_))
      exact s_iret kx_144_145 (Or.inl kq_144) ⟨_, rfl, rfl, trivial⟩
    · refine s_tsw (t := 146) kx_144_17 (by decide) 6 hs3 (by decide) ?_
      refine s_aload_n kx_144_146 rfl ?_
      refine r_getR (k := 0) (f := 2) (k2 := 7) kx_144_147 kp_144_26 (tk_0 hT) kf_11_2 (by decide) (rq_0_2 hI) ?_
      refine r_getR (k := 7) (f := 0) (k2 := t) kx_144_150 kp_144_120 (tk_7 hT) kf_5_0 (by decide) h70 ?_
      refine r_getR (k := t) (f := 12) (k2 := (t + 9)) kx_144_153 kp_144_209 (tkt_0 hT ht) kf_9_12 (by decide) (rqt_12 hI ht) ?_
      refine s_iload_n kx_144_156 rfl ?_
      refine r_aldU (k := (t + 9)) kx_144_157 (tkt_9 hT ht) ⟨by omega, by omega⟩ (fun v12 v12e => ?_)
      exact s_iret kx_144_158 (Or.inl kq_144) ⟨_, rfl, rfl, trivial⟩
    · refine s_tsw (t := 159) kx_144_17 (by decide) 7 hs3 (by decide) ?_
      refine s_aload_n kx_144_159 rfl ?_
      refine r_getR (k := 0) (f := 2) (k2 := 7) kx_144_160 kp_144_26 (tk_0 hT) kf_11_2 (by decide) (rq_0_2 hI) ?_
      refine r_getR (k := 7) (f := 0) (k2 := t) kx_144_163 kp_144_120 (tk_7 hT) kf_5_0 (by decide) h70 ?_
      refine r_getR (k := t) (f := 9) (k2 := (t + 6)) kx_144_166 kp_144_212 (tkt_0 hT ht) kf_9_9 (by decide) (rqt_9 hI ht) ?_
      refine s_iload_n kx_144_169 rfl ?_
      refine r_aldU (k := (t + 6)) kx_144_170 (tkt_6 hT ht) ⟨by omega, by omega⟩ (fun v13 v13e => ?_)
      exact s_iret kx_144_171 (Or.inl kq_144) ⟨_, rfl, rfl, trivial⟩
    · refine s_tsw (t := 172) kx_144_17 (by decide) 8 hs3 (by decide) ?_
      refine s_aload_n kx_144_172 rfl ?_
      refine r_getR (k := 0) (f := 2) (k2 := 7) kx_144_173 kp_144_26 (tk_0 hT) kf_11_2 (by decide) (rq_0_2 hI) ?_
      refine r_getR (k := 7) (f := 0) (k2 := t) kx_144_176 kp_144_120 (tk_7 hT) kf_5_0 (by decide) h70 ?_
      refine r_getR (k := t) (f := 10) (k2 := (t + 7)) kx_144_179 kp_144_215 (tkt_0 hT ht) kf_9_10 (by decide) (rqt_10 hI ht) ?_
      refine s_iload_n kx_144_182 rfl ?_
      refine r_aldU (k := (t + 7)) kx_144_183 (tkt_7 hT ht) ⟨by omega, by omega⟩ (fun v14 v14e => ?_)
      exact s_iret kx_144_184 (Or.inl kq_144) ⟨_, rfl, rfl, trivial⟩
    · refine s_tsw (t := 185) kx_144_17 (by decide) 9 hs3 (by decide) ?_
      refine s_aload_n kx_144_185 rfl ?_
      refine r_getR (k := 0) (f := 2) (k2 := 7) kx_144_186 kp_144_26 (tk_0 hT) kf_11_2 (by decide) (rq_0_2 hI) ?_
      refine r_getR (k := 7) (f := 0) (k2 := t) kx_144_189 kp_144_120 (tk_7 hT) kf_5_0 (by decide) h70 ?_
      refine r_getR (k := t) (f := 11) (k2 := (t + 8)) kx_144_192 kp_144_218 (tkt_0 hT ht) kf_9_11 (by decide) (rqt_11 hI ht) ?_
      refine s_iload_n kx_144_195 rfl ?_
      refine r_aldU (k := (t + 8)) kx_144_196 (tkt_8 hT ht) ⟨by omega, by omega⟩ (fun v15 v15e => ?_)
      exact s_iret kx_144_197 (Or.inl kq_144) ⟨_, rfl, rfl, trivial⟩
    · refine s_tsw (t := 198) kx_144_17 (by decide) 10 hs3 (by decide) ?_
      refine s_aload_n kx_144_198 rfl ?_
      refine r_getR (k := 0) (f := 2) (k2 := 7) kx_144_199 kp_144_26 (tk_0 hT) kf_11_2 (by decide) (rq_0_2 hI) ?_
      refine r_getR (k := 7) (f := 0) (k2 := t) kx_144_202 kp_144_120 (tk_7 hT) kf_5_0 (by decide) h70 ?_
      refine s_iload_n kx_144_205 rfl ?_
      refine s_callV2 (k := t) (s1 := 2) (s2 := 0) (as := [(0, person)]) (rest := []) kx_144_206 kp_144_221 (Or.inl rfl) rfl (tkt_0 hT ht) ki_116 kcl_116 rfl rfl (by decide) (m_116 (d := d + 1) (chair := person) hT hI ht) (kF (fun v16 v16p => ?_))
      exact s_iret kx_144_209 (Or.inl kq_144) ⟨_, rfl, rfl, trivial⟩
    · refine s_tswD (t := 210) kx_144_17 (by decide) hs3 (by decide) ?_
      refine s_iconst (v := (-1)) kx_144_210 (by decide) ?_
      exact s_iret kx_144_211 (Or.inl kq_144) ⟨_, rfl, rfl, trivial⟩
  · replace v1p := v1p.resolve_left (by omega)
    refine s_iconst (v := (-1)) kx_144_14 (by decide) ?_
    exact s_iret kx_144_15 (Or.inl kq_144) ⟨_, rfl, rfl, trivial⟩
theorem kx_145_0 : x_code k_P 145 0 = some (.aload_n 0, 1) := by decide +kernel
theorem kx_145_1 : x_code k_P 145 1 = some (.getfield 26, 3) := by decide +kernel
theorem kp_145_26 : x_pool k_P 145 26 = (1, 11, 2) := by decide +kernel
theorem kx_145_4 : x_code k_P 145 4 = some (.getfield 120, 3) := by decide +kernel
theorem kp_145_120 : x_pool k_P 145 120 = (1, 5, 0) := by decide +kernel
theorem kx_145_7 : x_code k_P 145 7 = some (.iload_n 1, 1) := by decide +kernel
theorem kx_145_8 : x_code k_P 145 8 = some (.invokevirtual 164, 3) := by decide +kernel
theorem kp_145_164 : x_pool k_P 145 164 = (2, 107, 1) := by decide +kernel
theorem kx_145_11 : x_code k_P 145 11 = some (.ifCond .eq 29, 3) := by decide +kernel
theorem kx_145_40 : x_code k_P 145 40 = some (.iconst (-1), 1) := by decide +kernel
theorem kx_145_41 : x_code k_P 145 41 = some (.ireturn, 1) := by decide +kernel
theorem kq_145 : x_retk k_P 145 = 1 := by decide +kernel
theorem kx_145_14 : x_code k_P 145 14 = some (.aload_n 0, 1) := by decide +kernel
theorem kx_145_15 : x_code k_P 145 15 = some (.getfield 26, 3) := by decide +kernel
theorem kx_145_18 : x_code k_P 145 18 = some (.getfield 120, 3) := by decide +kernel
theorem kx_145_21 : x_code k_P 145 21 = some (.iload_n 2, 1) := by decide +kernel
theorem kx_145_22 : x_code k_P 145 22 = some (.invokevirtual 153, 3) := by decide +kernel
theorem kp_145_153 : x_pool k_P 145 153 = (2, 106, 1) := by decide +kernel
theorem kx_145_25 : x_code k_P 145 25 = some (.ifCond .eq 15, 3) := by decide +kernel
theorem kx_145_28 : x_code k_P 145 28 = some (.aload_n 0, 1) := by decide +kernel
theorem kx_145_29 : x_code k_P 145 29 = some (.getfield 26, 3) := by decide +kernel
theorem kx_145_32 : x_code k_P 145 32 = some (.iload_n 1, 1) := by decide +kernel
theorem kx_145_33 : x_code k_P 145 33 = some (.invokevirtual 194, 3) := by decide +kernel
theorem kp_145_194 : x_pool k_P 145 194 = (2, 44, 1) := by decide +kernel
theorem kx_145_36 : x_code k_P 145 36 = some (.iload_n 2, 1) := by decide +kernel
theorem kx_145_37 : x_code k_P 145 37 = some (.if_icmp .ne 5, 3) := by decide +kernel
theorem kx_145_42 : x_code k_P 145 42 = some (.aload_n 0, 1) := by decide +kernel
theorem kx_145_43 : x_code k_P 145 43 = some (.getfield 26, 3) := by decide +kernel
theorem kx_145_46 : x_code k_P 145 46 = some (.iload_n 2, 1) := by decide +kernel
theorem kx_145_47 : x_code k_P 145 47 = some (.iload_n 1, 1) := by decide +kernel
theorem kx_145_48 : x_code k_P 145 48 = some (.invokevirtual 224, 3) := by decide +kernel
theorem kp_145_224 : x_pool k_P 145 224 = (2, 57, 2) := by decide +kernel
theorem kx_145_51 : x_code k_P 145 51 = some (.ifCond .eq 7, 3) := by decide +kernel
theorem kx_145_58 : x_code k_P 145 58 = some (.iconst 0, 1) := by decide +kernel
theorem kx_145_59 : x_code k_P 145 59 = some (.ireturn, 1) := by decide +kernel
theorem kx_145_54 : x_code k_P 145 54 = some (.iconst 1, 1) := by decide +kernel
theorem kx_145_55 : x_code k_P 145 55 = some (.goto 4, 3) := by decide +kernel
theorem m_145 {xs : Nat → Int} {Ln d : Nat} {T : List cK} {M : cM} (hT : TT T) (hI : Rng M) {t : Nat} (ht : t = 8 ∨ t = 25) (h70 : M 7 0 = ((t : Nat) : Int)) {chair room : Int} : cC k_P xs Ln (d + 3) 145 [rf 0, (0, chair), (0, room)] (T, M) (qF T M 0 (fun v => True)) := by
  show cP k_P xs Ln (d + 3) 145 0 [(0, rf 0), (1, (0, chair)), (2, (0, room))] [] (T, M) _
  refine s_aload_n kx_145_0 rfl ?_
  refine r_getR (k := 0) (f := 2) (k2 := 7) kx_145_1 kp_145_26 (tk_0 hT) kf_11_2 (by decide) (rq_0_2 hI) ?_
  refine r_getR (k := 7) (f := 0) (k2 := t) kx_145_4 kp_145_120 (tk_7 hT) kf_5_0 (by decide) h70 ?_
  refine s_iload_n kx_145_7 rfl ?_
  refine s_callV2 (k := t) (s1 := 2) (s2 := 0) (as := [(0, chair)]) (rest := []) kx_145_8 kp_145_164 (Or.inl rfl) rfl (tkt_0 hT ht) ki_107 kcl_107 rfl rfl (by decide) (m_107 (d := d + 2) (person := chair) hT hI ht) (kF (fun v1 v1p => ?_))
  refine s_if_eq (t := 40) kx_145_11 (by decide) (fun hc2 => ?_) (fun hc2 => ?_)
  · replace v1p := v1p.resolve_left (by omega)
    refine s_iconst (v := (-1)) kx_145_40 (by decide) ?_
    exact s_iret kx_145_41 (Or.inl kq_145) ⟨_, rfl, rfl, trivial⟩
  · replace v1p := v1p.resolve_right (by omega)
    refine s_aload_n kx_145_14 rfl ?_
    refine r_getR (k := 0) (f := 2) (k2 := 7) kx_145_15 kp_145_26 (tk_0 hT) kf_11_2 (by decide) (rq_0_2 hI) ?_
    refine r_getR (k := 7) (f := 0) (k2 := t) kx_145_18 kp_145_120 (tk_7 hT) kf_5_0 (by decide) h70 ?_
    refine s_iload_n kx_145_21 rfl ?_
    refine s_callV2 (k := t) (s1 := 2) (s2 := 0) (as := [(0, room)]) (rest := []) kx_145_22 kp_145_153 (Or.inl rfl) rfl (tkt_0 hT ht) ki_106 kcl_106 rfl rfl (by decide) (m_106 (d := d + 2) (room := room) hT hI ht) (kF (fun v3 v3p => ?_))
    refine s_if_eq (t := 40) kx_145_25 (by decide) (fun hc4 => ?_) (fun hc4 => ?_)
    · replace v3p := v3p.resolve_left (by omega)
      refine s_iconst (v := (-1)) kx_145_40 (by decide) ?_
      exact s_iret kx_145_41 (Or.inl kq_145) ⟨_, rfl, rfl, trivial⟩
    · replace v3p := v3p.resolve_right (by omega)
      refine s_aload_n kx_145_28 rfl ?_
      refine r_getR (k := 0) (f := 2) (k2 := 7) kx_145_29 kp_145_26 (tk_0 hT) kf_11_2 (by decide) (rq_0_2 hI) ?_
      refine s_iload_n kx_145_32 rfl ?_
      refine s_callV2 (k := 7) (s1 := 2) (s2 := 0) (as := [(0, chair)]) (rest := []) kx_145_33 kp_145_194 (Or.inl rfl) rfl (tk_7 hT) ki_44 kcl_44 rfl rfl (by decide) (m_44 (d := d + 2) (chair := chair) hT hI (by omega)) (kF (fun v5 v5p => ?_))
      refine s_iload_n kx_145_36 rfl ?_
      refine s_icmp_ne (t := 42) kx_145_37 (by decide) (fun hc6 => ?_) (fun hc6 => ?_)
      · refine s_aload_n kx_145_42 rfl ?_
        refine r_getR (k := 0) (f := 2) (k2 := 7) kx_145_43 kp_145_26 (tk_0 hT) kf_11_2 (by decide) (rq_0_2 hI) ?_
        refine s_iload_n kx_145_46 rfl ?_
        refine s_iload_n kx_145_47 rfl ?_
        refine s_callV2 (k := 7) (s1 := 3) (s2 := 0) (as := [(0, chair), (0, room)]) (rest := []) kx_145_48 kp_145_224 (Or.inl rfl) rfl (tk_7 hT) ki_57 kcl_57 rfl rfl (by decide) (m_57 (d := d) (room := room) (chair := chair) hT hI ht h70) (kF (fun v7 v7p => ?_))
        refine s_if_eq (t := 58) kx_145_51 (by decide) (fun hc8 => ?_) (fun hc8 => ?_)
        · replace v7p := v7p.resolve_left (by omega)
          refine s_iconst (v := 0) kx_145_58 (by decide) ?_
          exact s_iret kx_145_59 (Or.inl kq_145) ⟨_, rfl, rfl, trivial⟩
        · replace v7p := v7p.resolve_right (by omega)
          refine s_iconst (v := 1) kx_145_54 (by decide) ?_
          refine s_goto (t := 59) kx_145_55 (by decide) ?_
          exact s_iret kx_145_59 (Or.inl kq_145) ⟨_, rfl, rfl, trivial⟩
      · refine s_iconst (v := (-1)) kx_145_40 (by decide) ?_
        exact s_iret kx_145_41 (Or.inl kq_145) ⟨_, rfl, rfl, trivial⟩
theorem kx_146_0 : x_code k_P 146 0 = some (.aload_n 0, 1) := by decide +kernel
theorem kx_146_1 : x_code k_P 146 1 = some (.getfield 26, 3) := by decide +kernel
theorem kp_146_26 : x_pool k_P 146 26 = (1, 11, 2) := by decide +kernel
theorem kx_146_4 : x_code k_P 146 4 = some (.iload_n 1, 1) := by decide +kernel
theorem kx_146_5 : x_code k_P 146 5 = some (.iload_n 2, 1) := by decide +kernel
theorem kx_146_6 : x_code k_P 146 6 = some (.iload_n 3, 1) := by decide +kernel
theorem kx_146_7 : x_code k_P 146 7 = some (.invokevirtual 228, 3) := by decide +kernel
theorem kp_146_228 : x_pool k_P 146 228 = (2, 61, 3) := by decide +kernel
theorem ki_61 : x_mci k_P 61 = 5 := by decide +kernel
theorem kcl_61 : x_maxL k_P 61 ≤ 60 ∧ 4 ≤ x_maxL k_P 61 := by decide +kernel
theorem kx_146_10 : x_code k_P 146 10 = some (.ireturn, 1) := by decide +kernel
theorem kq_146 : x_retk k_P 146 = 1 := by decide +kernel
def fS_146_m : List (Nat × Nat) := [(20, 99999), (23, 99999), (37, 99999), (40, 99999), (43, 99999)]
theorem m_146 {xs : Nat → Int} {Ln d : Nat} {T : List cK} {M : cM} (hT : TT T) (hI : Rng M) {t : Nat} (ht : t = 8 ∨ t = 25) (h70 : M 7 0 = ((t : Nat) : Int)) (hN : Fm T M) {person room chair : Int} : cC k_P xs Ln (d + 6) 146 [rf 0, (0, person), (0, room), (0, chair)] (T, M) (qW T M fS_146_m 0 (fun v M1 => True)) := by
  show cP k_P xs Ln (d + 6) 146 0 [(0, rf 0), (1, (0, person)), (2, (0, room)), (3, (0, chair))] [] (T, M) _
  have hFm : Fr fS_146_m M M := Fr.refl
  refine s_aload_n kx_146_0 rfl ?_
  refine r_getR (k := 0) (f := 2) (k2 := 7) kx_146_1 kp_146_26 (tk_0 hT) kf_11_2 (by decide) (rq_0_2 hI) ?_
  refine s_iload_n kx_146_4 rfl ?_
  refine s_iload_n kx_146_5 rfl ?_
  refine s_iload_n kx_146_6 rfl ?_
  refine s_callV2 (k := 7) (s1 := 4) (s2 := 0) (as := [(0, chair), (0, room), (0, person)]) (rest := []) kx_146_7 kp_146_228 (Or.inl rfl) rfl (tk_7 hT) ki_61 kcl_61 rfl rfl (by decide) (m_61 (d := d) (person := person) (to := room) (chair := chair) hT hI ht h70 hN) (kW (fun v1 M2 hI2 fr2 v1p => ?_))
  have hFm2 := hFm.call fr2 rfl
  exact s_iret kx_146_10 (Or.inl kq_146) ⟨_, _, rfl, rfl, hI2, hFm2, trivial⟩
theorem kx_168_0 : x_code k_P 168 0 = some (.aload_n 0, 1) := by decide +kernel
theorem kx_168_1 : x_code k_P 168 1 = some (.ldc2_w 323, 3) := by decide +kernel
theorem kp_168_323 : x_pool k_P 168 323 = (8, 0, 1103515245) := by decide +kernel
theorem kx_168_4 : x_code k_P 168 4 = some (.aload_n 0, 1) := by decide +kernel
theorem kx_168_5 : x_code k_P 168 5 = some (.getfield 75, 3) := by decide +kernel
theorem kp_168_75 : x_pool k_P 168 75 = (1, 11, 12) := by decide +kernel
theorem kx_168_8 : x_code k_P 168 8 = some (.i2l, 1) := by decide +kernel
theorem kx_168_9 : x_code k_P 168 9 = some (.lmul, 1) := by decide +kernel
theorem kx_168_10 : x_code k_P 168 10 = some (.ldc2_w 325, 3) := by decide +kernel
theorem kp_168_325 : x_pool k_P 168 325 = (8, 0, 12345) := by decide +kernel
theorem kx_168_13 : x_code k_P 168 13 = some (.ladd, 1) := by decide +kernel
theorem kx_168_14 : x_code k_P 168 14 = some (.ldc2_w 327, 3) := by decide +kernel
theorem kp_168_327 : x_pool k_P 168 327 = (8, 0, 2147483647) := by decide +kernel
theorem kx_168_17 : x_code k_P 168 17 = some (.land, 1) := by decide +kernel
theorem kx_168_18 : x_code k_P 168 18 = some (.l2i, 1) := by decide +kernel
theorem kx_168_19 : x_code k_P 168 19 = some (.putfield 75, 3) := by decide +kernel
theorem kx_168_22 : x_code k_P 168 22 = some (.iload_n 1, 1) := by decide +kernel
theorem kx_168_23 : x_code k_P 168 23 = some (.ifCond .le 15, 3) := by decide +kernel
theorem kx_168_38 : x_code k_P 168 38 = some (.iconst 0, 1) := by decide +kernel
theorem kx_168_39 : x_code k_P 168 39 = some (.ireturn, 1) := by decide +kernel
theorem kq_168 : x_retk k_P 168 = 1 := by decide +kernel
theorem kx_168_26 : x_code k_P 168 26 = some (.aload_n 0, 1) := by decide +kernel
theorem kx_168_27 : x_code k_P 168 27 = some (.getfield 75, 3) := by decide +kernel
theorem kx_168_30 : x_code k_P 168 30 = some (.bipush 64, 2) := by decide +kernel
theorem kx_168_32 : x_code k_P 168 32 = some (.idiv, 1) := by decide +kernel
theorem kx_168_33 : x_code k_P 168 33 = some (.iload_n 1, 1) := by decide +kernel
theorem kx_168_34 : x_code k_P 168 34 = some (.irem, 1) := by decide +kernel
theorem kx_168_35 : x_code k_P 168 35 = some (.goto 4, 3) := by decide +kernel
def fS_168_m : List (Nat × Nat) := [(0, 12)]
theorem m_168 {xs : Nat → Int} {Ln d : Nat} {T : List cK} {M : cM} (hT : TT T) (hI : Rng M) {many : Int} (p0 : many ≤ 2147483647) : cC k_P xs Ln (d + 0) 168 [rf 0, (0, many)] (T, M) (qW T M fS_168_m 0 (fun v M1 => (0 < many ∧ 0 ≤ v ∧ v < many) ∨ (many ≤ 0 ∧ v = 0))) := by
  show cP k_P xs Ln (d + 0) 168 0 [(0, rf 0), (1, (0, many))] [] (T, M) _
  have hFm : Fr fS_168_m M M := Fr.refl
  refine s_aload_n kx_168_0 rfl ?_
  refine s_ldc2_w kx_168_1 kp_168_323 ?_
  refine s_aload_n kx_168_4 rfl ?_
  refine r_getI (k := 0) (f := 12) kx_168_5 kp_168_75 (tk_0 hT) kf_11_12 (fun _ => rfl) (rg_0_12 hI) (fun v1 v1e v1a v1b => ?_)
  refine s_i2l kx_168_8 ?_
  refine r_lmulR kx_168_9 (fun v2 v2a v2b => ?_)
  refine s_ldc2_w kx_168_10 kp_168_325 ?_
  refine r_laddR kx_168_13 (fun v3 v3a v3b => ?_)
  refine s_ldc2_w kx_168_14 kp_168_327 ?_
  refine r_landM kx_168_17 (by decide) (by decide) (fun v4 v4a v4b => ?_)
  refine r_l2iE kx_168_18 (by omega) (by omega) ?_
  refine r_put (k := 0) (f := 12) kx_168_19 kp_168_75 (tk_0 hT) kf_11_12 rfl (by decide) (by decide) hI (ru_0_12 (by omega) (by omega)) (fun M5 hI5 u5 => ?_)
  have hFm5 := hFm.up u5 rfl
  refine s_iload_n kx_168_22 rfl ?_
  refine s_if_le (t := 38) kx_168_23 (by decide) (fun hc6 => ?_) (fun hc6 => ?_)
  · refine s_iconst (v := 0) kx_168_38 (by decide) ?_
    exact s_iret kx_168_39 (Or.inl kq_168) ⟨_, _, rfl, rfl, hI5, hFm5, (by omega)⟩
  · refine s_aload_n kx_168_26 rfl ?_
    refine r_getK (k := 0) (f := 12) kx_168_27 kp_168_75 (tk_0 hT) kf_11_12 (fun _ => rfl) u5.1 ?_
    refine s_bipush (v := 64) kx_168_30 (by decide) ?_
    refine r_idiv kx_168_32 (by omega) (by omega) (by omega) (by omega) ?_
    refine s_iload_n kx_168_33 rfl ?_
    refine r_iremP kx_168_34 (by omega) (by omega) (by omega) (by omega) (fun v7 v7a v7b => ?_)
    refine s_goto (t := 39) kx_168_35 (by decide) ?_
    exact s_iret kx_168_39 (Or.inl kq_168) ⟨_, _, rfl, rfl, hI5, hFm5, (by omega)⟩
theorem kx_169_0 : x_code k_P 169 0 = some (.aload_n 0, 1) := by decide +kernel
theorem kx_169_1 : x_code k_P 169 1 = some (.getfield 26, 3) := by decide +kernel
theorem kp_169_26 : x_pool k_P 169 26 = (1, 11, 2) := by decide +kernel
theorem kx_169_4 : x_code k_P 169 4 = some (.iload_n 1, 1) := by decide +kernel
theorem kx_169_5 : x_code k_P 169 5 = some (.iload_n 2, 1) := by decide +kernel
theorem kx_169_6 : x_code k_P 169 6 = some (.iload 4, 2) := by decide +kernel
theorem kx_169_8 : x_code k_P 169 8 = some (.invokevirtual 329, 3) := by decide +kernel
theorem kp_169_329 : x_pool k_P 169 329 = (2, 65, 3) := by decide +kernel
theorem ki_65 : x_mci k_P 65 = 5 := by decide +kernel
theorem kcl_65 : x_maxL k_P 65 ≤ 60 ∧ 4 ≤ x_maxL k_P 65 := by decide +kernel
theorem kx_169_11 : x_code k_P 169 11 = some (.iload_n 3, 1) := by decide +kernel
theorem kx_169_12 : x_code k_P 169 12 = some (.iconst (-1), 1) := by decide +kernel
theorem kx_169_13 : x_code k_P 169 13 = some (.if_icmp .ne 4, 3) := by decide +kernel
theorem kx_169_17 : x_code k_P 169 17 = some (.aload_n 0, 1) := by decide +kernel
theorem kx_169_18 : x_code k_P 169 18 = some (.getfield 26, 3) := by decide +kernel
theorem kx_169_21 : x_code k_P 169 21 = some (.iload_n 1, 1) := by decide +kernel
theorem kx_169_22 : x_code k_P 169 22 = some (.iload_n 2, 1) := by decide +kernel
theorem kx_169_23 : x_code k_P 169 23 = some (.iload_n 3, 1) := by decide +kernel
theorem kx_169_24 : x_code k_P 169 24 = some (.iload 4, 2) := by decide +kernel
theorem kx_169_26 : x_code k_P 169 26 = some (.invokevirtual 332, 3) := by decide +kernel
theorem kp_169_332 : x_pool k_P 169 332 = (2, 66, 4) := by decide +kernel
theorem ki_66 : x_mci k_P 66 = 5 := by decide +kernel
theorem kcl_66 : x_maxL k_P 66 ≤ 60 ∧ 5 ≤ x_maxL k_P 66 := by decide +kernel
theorem kx_169_29 : x_code k_P 169 29 = some (.aload_n 0, 1) := by decide +kernel
theorem kx_169_30 : x_code k_P 169 30 = some (.getfield 26, 3) := by decide +kernel
theorem kx_169_33 : x_code k_P 169 33 = some (.getfield 120, 3) := by decide +kernel
theorem kp_169_120 : x_pool k_P 169 120 = (1, 5, 0) := by decide +kernel
theorem kx_169_36 : x_code k_P 169 36 = some (.getfield 131, 3) := by decide +kernel
theorem kp_169_131 : x_pool k_P 169 131 = (1, 9, 2) := by decide +kernel
theorem kx_169_39 : x_code k_P 169 39 = some (.ifCond .le 30, 3) := by decide +kernel
theorem kx_169_69 : x_code k_P 169 69 = some (.return_, 1) := by decide +kernel
theorem kq_169 : x_retk k_P 169 = 0 := by decide +kernel
theorem kx_169_42 : x_code k_P 169 42 = some (.aload_n 0, 1) := by decide +kernel
theorem kx_169_43 : x_code k_P 169 43 = some (.bipush 100, 2) := by decide +kernel
theorem kx_169_45 : x_code k_P 169 45 = some (.invokevirtual 335, 3) := by decide +kernel
theorem kp_169_335 : x_pool k_P 169 335 = (2, 168, 1) := by decide +kernel
theorem ki_168 : x_mci k_P 168 = 11 := by decide +kernel
theorem kcl_168 : x_maxL k_P 168 ≤ 60 ∧ 2 ≤ x_maxL k_P 168 := by decide +kernel
theorem kx_169_48 : x_code k_P 169 48 = some (.aload_n 0, 1) := by decide +kernel
theorem kx_169_49 : x_code k_P 169 49 = some (.getfield 26, 3) := by decide +kernel
theorem kx_169_52 : x_code k_P 169 52 = some (.getfield 120, 3) := by decide +kernel
theorem kx_169_55 : x_code k_P 169 55 = some (.getfield 131, 3) := by decide +kernel
theorem kx_169_58 : x_code k_P 169 58 = some (.if_icmp .ge 11, 3) := by decide +kernel
theorem kx_169_61 : x_code k_P 169 61 = some (.aload_n 0, 1) := by decide +kernel
theorem kx_169_62 : x_code k_P 169 62 = some (.getfield 26, 3) := by decide +kernel
theorem kx_169_65 : x_code k_P 169 65 = some (.iload_n 3, 1) := by decide +kernel
theorem kx_169_66 : x_code k_P 169 66 = some (.invokevirtual 338, 3) := by decide +kernel
theorem kp_169_338 : x_pool k_P 169 338 = (2, 68, 1) := by decide +kernel
theorem ki_68 : x_mci k_P 68 = 5 := by decide +kernel
theorem kcl_68 : x_maxL k_P 68 ≤ 60 ∧ 2 ≤ x_maxL k_P 68 := by decide +kernel
theorem kx_169_16 : x_code k_P 169 16 = some (.return_, 1) := by decide +kernel
def fS_169_m : List (Nat × Nat) := [(0, 12), (42, 99999)]
theorem m_169 {xs : Nat → Int} {Ln d : Nat} {T : List cK} {M : cM} (hT : TT T) (hI : Rng M) {t : Nat} (ht : t = 8 ∨ t = 25) (h70 : M 7 0 = ((t : Nat) : Int)) {person room chair minutes : Int} (p0 : 0 ≤ person ∧ person ≤ 7) (p1 : 0 ≤ room ∧ room ≤ 7) (p2 : (-1) ≤ chair ∧ chair ≤ 7) : cC k_P xs Ln (d + 3) 169 [rf 0, (0, person), (0, room), (0, chair), (0, minutes)] (T, M) (qV T M fS_169_m (fun M1 => True)) := by
  show cP k_P xs Ln (d + 3) 169 0 [(0, rf 0), (1, (0, person)), (2, (0, room)), (3, (0, chair)), (4, (0, minutes))] [] (T, M) _
  have hFm : Fr fS_169_m M M := Fr.refl
  refine s_aload_n kx_169_0 rfl ?_
  refine r_getR (k := 0) (f := 2) (k2 := 7) kx_169_1 kp_169_26 (tk_0 hT) kf_11_2 (by decide) (rq_0_2 hI) ?_
  refine s_iload_n kx_169_4 rfl ?_
  refine s_iload_n kx_169_5 rfl ?_
  refine s_iload kx_169_6 rfl ?_
  refine s_callV2 (k := 7) (s1 := 4) (s2 := 0) (as := [(0, minutes), (0, room), (0, person)]) (rest := []) kx_169_8 kp_169_329 (Or.inl rfl) rfl (tk_7 hT) ki_65 kcl_65 rfl rfl (by decide) (m_65 (d := d) (person := person) (room := room) (minutes := minutes) hT hI (by omega) (by omega)) (kV (fun M2 hI2 fr2 v1p => ?_))
  have hFm2 := hFm.call fr2 rfl
  refine s_iload_n kx_169_11 rfl ?_
  refine s_iconst (v := (-1)) kx_169_12 (by decide) ?_
  refine s_icmp_ne (t := 17) kx_169_13 (by decide) (fun hc3 => ?_) (fun hc3 => ?_)
  · refine s_aload_n kx_169_17 rfl ?_
    refine r_getR (k := 0) (f := 2) (k2 := 7) kx_169_18 kp_169_26 (tk_0 hT) kf_11_2 (by decide) (rq_0_2 hI2) ?_
    refine s_iload_n kx_169_21 rfl ?_
    refine s_iload_n kx_169_22 rfl ?_
    refine s_iload_n kx_169_23 rfl ?_
    refine s_iload kx_169_24 rfl ?_
    refine s_callV2 (k := 7) (s1 := 5) (s2 := 0) (as := [(0, minutes), (0, chair), (0, room), (0, person)]) (rest := []) kx_169_26 kp_169_332 (Or.inl rfl) rfl (tk_7 hT) ki_66 kcl_66 rfl rfl (by decide) (m_66 (d := d + 1) (person := person) (room := room) (chair := chair) (minutes := minutes) hT hI2 (by omega) (by omega) (by omega)) (kV (fun M5 hI5 fr5 v4p => ?_))
    have hFm5 := hFm2.call fr5 rfl
    refine s_aload_n kx_169_29 rfl ?_
    refine r_getR (k := 0) (f := 2) (k2 := 7) kx_169_30 kp_169_26 (tk_0 hT) kf_11_2 (by decide) (rq_0_2 hI5) ?_
    refine r_getR (k := 7) (f := 0) (k2 := t) kx_169_33 kp_169_120 (tk_7 hT) kf_5_0 (by decide) ((fr5 7 0 rfl).trans ((fr2 7 0 rfl).trans h70)) ?_
    refine r_getU (k := t) (f := 2) kx_169_36 kp_169_131 (tkt_0 hT ht) kf_9_2 (fun _ => rfl) (fun v6 v6e => ?_)
    have v6z : M t 2 = v6 := (((fr5 t 2 (by rcases ht with rfl | rfl <;> rfl)).trans (fr2 t 2 (by rcases ht with rfl | rfl <;> rfl)))).symm.trans v6e
    refine s_if_le (t := 69) kx_169_39 (by decide) (fun hc7 => ?_) (fun hc7 => ?_)
    · exact s_vret kx_169_69 kq_169 ⟨_, rfl, rfl, hI5, hFm5, trivial⟩
    · refine s_aload_n kx_169_42 rfl ?_
      refine s_bipush (v := 100) kx_169_43 (by decide) ?_
      refine s_callV2 (k := 0) (s1 := 2) (s2 := 0) (as := [(0, 100)]) (rest := []) kx_169_45 kp_169_335 (Or.inl rfl) rfl (tk_0 hT) ki_168 kcl_168 rfl rfl (by decide) (m_168 (d := d + 2) (many := 100) hT hI5 (by omega)) (kW (fun v8 M9 hI9 fr9 v8p => ?_))
      have hFm9 := hFm5.call fr9 rfl
      refine s_aload_n kx_169_48 rfl ?_
      refine r_getR (k := 0) (f := 2) (k2 := 7) kx_169_49 kp_169_26 (tk_0 hT) kf_11_2 (by decide) (rq_0_2 hI9) ?_
      refine r_getR (k := 7) (f := 0) (k2 := t) kx_169_52 kp_169_120 (tk_7 hT) kf_5_0 (by decide) ((fr9 7 0 rfl).trans ((fr5 7 0 rfl).trans ((fr2 7 0 rfl).trans h70))) ?_
      refine r_getK (k := t) (f := 2) kx_169_55 kp_169_131 (tkt_0 hT ht) kf_9_2 (fun _ => rfl) ((fr9 t 2 (by rcases ht with rfl | rfl <;> rfl)).trans v6e) ?_
      refine s_icmp_ge (t := 69) kx_169_58 (by decide) (fun hc10 => ?_) (fun hc10 => ?_)
      · exact s_vret kx_169_69 kq_169 ⟨_, rfl, rfl, hI9, hFm9, trivial⟩
      · refine s_aload_n kx_169_61 rfl ?_
        refine r_getR (k := 0) (f := 2) (k2 := 7) kx_169_62 kp_169_26 (tk_0 hT) kf_11_2 (by decide) (rq_0_2 hI9) ?_
        refine s_iload_n kx_169_65 rfl ?_
        refine s_callV2 (k := 7) (s1 := 2) (s2 := 0) (as := [(0, chair)]) (rest := []) kx_169_66 kp_169_338 (Or.inl rfl) rfl (tk_7 hT) ki_68 kcl_68 rfl rfl (by decide) (m_68 (d := d + 2) (chair := chair) hT hI9 (by omega)) (kV (fun M12 hI12 fr12 v11p => ?_))
        have hFm12 := hFm9.call fr12 rfl
        exact s_vret kx_169_69 kq_169 ⟨_, rfl, rfl, hI12, hFm12, trivial⟩
  · exact s_vret kx_169_16 kq_169 ⟨_, rfl, rfl, hI2, hFm2, trivial⟩
theorem kx_147_0 : x_code k_P 147 0 = some (.aload_n 0, 1) := by decide +kernel
theorem kx_147_1 : x_code k_P 147 1 = some (.getfield 26, 3) := by decide +kernel
theorem kp_147_26 : x_pool k_P 147 26 = (1, 11, 2) := by decide +kernel
theorem kx_147_4 : x_code k_P 147 4 = some (.iload_n 1, 1) := by decide +kernel
theorem kx_147_5 : x_code k_P 147 5 = some (.iload_n 2, 1) := by decide +kernel
theorem kx_147_6 : x_code k_P 147 6 = some (.iload_n 3, 1) := by decide +kernel
theorem kx_147_7 : x_code k_P 147 7 = some (.invokevirtual 228, 3) := by decide +kernel
theorem kp_147_228 : x_pool k_P 147 228 = (2, 61, 3) := by decide +kernel
theorem kx_147_10 : x_code k_P 147 10 = some (.istore 4, 2) := by decide +kernel
theorem km_147_4 : 4 < x_maxL k_P 147 := by decide +kernel
theorem kx_147_12 : x_code k_P 147 12 = some (.iload 4, 2) := by decide +kernel
theorem kx_147_14 : x_code k_P 147 14 = some (.iconst (-1), 1) := by decide +kernel
theorem kx_147_15 : x_code k_P 147 15 = some (.if_icmp .ne 9, 3) := by decide +kernel
theorem kx_147_24 : x_code k_P 147 24 = some (.aload_n 0, 1) := by decide +kernel
theorem kx_147_25 : x_code k_P 147 25 = some (.getfield 33, 3) := by decide +kernel
theorem kp_147_33 : x_pool k_P 147 33 = (1, 11, 3) := by decide +kernel
theorem kx_147_28 : x_code k_P 147 28 = some (.aload_n 0, 1) := by decide +kernel
theorem kx_147_29 : x_code k_P 147 29 = some (.getfield 26, 3) := by decide +kernel
theorem kx_147_32 : x_code k_P 147 32 = some (.getfield 232, 3) := by decide +kernel
theorem kp_147_232 : x_pool k_P 147 232 = (1, 5, 2) := by decide +kernel
theorem kx_147_35 : x_code k_P 147 35 = some (.invokevirtual 235, 3) := by decide +kernel
theorem kp_147_235 : x_pool k_P 147 235 = (2, 16, 1) := by decide +kernel
theorem ki_16 : x_mci k_P 16 = 2 := by decide +kernel
theorem kcl_16 : x_maxL k_P 16 ≤ 60 ∧ 2 ≤ x_maxL k_P 16 := by decide +kernel
theorem kx_147_38 : x_code k_P 147 38 = some (.aload_n 0, 1) := by decide +kernel
theorem kx_147_39 : x_code k_P 147 39 = some (.iload_n 1, 1) := by decide +kernel
theorem kx_147_40 : x_code k_P 147 40 = some (.iload_n 2, 1) := by decide +kernel
theorem kx_147_41 : x_code k_P 147 41 = some (.iload_n 3, 1) := by decide +kernel
theorem kx_147_42 : x_code k_P 147 42 = some (.iload 4, 2) := by decide +kernel
theorem kx_147_44 : x_code k_P 147 44 = some (.invokevirtual 239, 3) := by decide +kernel
theorem kp_147_239 : x_pool k_P 147 239 = (2, 169, 4) := by decide +kernel
theorem ki_169 : x_mci k_P 169 = 11 := by decide +kernel
theorem kcl_169 : x_maxL k_P 169 ≤ 60 ∧ 5 ≤ x_maxL k_P 169 := by decide +kernel
theorem kx_147_47 : x_code k_P 147 47 = some (.aload_n 0, 1) := by decide +kernel
theorem kx_147_48 : x_code k_P 147 48 = some (.getfield 26, 3) := by decide +kernel
theorem kx_147_51 : x_code k_P 147 51 = some (.iload_n 1, 1) := by decide +kernel
theorem kx_147_52 : x_code k_P 147 52 = some (.invokevirtual 203, 3) := by decide +kernel
theorem kp_147_203 : x_pool k_P 147 203 = (2, 46, 1) := by decide +kernel
theorem kx_147_55 : x_code k_P 147 55 = some (.ireturn, 1) := by decide +kernel
theorem kq_147 : x_retk k_P 147 = 1 := by decide +kernel
theorem kx_147_18 : x_code k_P 147 18 = some (.aload_n 0, 1) := by decide +kernel
theorem kx_147_19 : x_code k_P 147 19 = some (.iconst 2, 1) := by decide +kernel
theorem kx_147_20 : x_code k_P 147 20 = some (.invokevirtual 81, 3) := by decide +kernel
theorem kp_147_81 : x_pool k_P 147 81 = (2, 165, 1) := by decide +kernel
theorem kx_147_23 : x_code k_P 147 23 = some (.ireturn, 1) := by decide +kernel
def fS_147_m : List (Nat × Nat) := [(0, 12), (20, 99999), (23, 99999), (37, 99999), (40, 99999), (42, 99999), (43, 99999), (44, 1), (44, 2), (45, 99999), (61, 99999)]
theorem m_147 {xs : Nat → Int} {Ln d : Nat} {T : List cK} {M : cM} (hT : TT T) (hI : Rng M) {t : Nat} (ht : t = 8 ∨ t = 25) (h70 : M 7 0 = ((t : Nat) : Int)) (hN : Fm T M) {person room chair : Int} : cC k_P xs Ln (d + 6) 147 [rf 0, (0, person), (0, room), (0, chair)] (T, M) (qW T M fS_147_m 0 (fun v M1 => True)) := by
  show cP k_P xs Ln (d + 6) 147 0 [(0, rf 0), (1, (0, person)), (2, (0, room)), (3, (0, chair))] [] (T, M) _
  have hFm : Fr fS_147_m M M := Fr.refl
  refine s_aload_n kx_147_0 rfl ?_
  refine r_getR (k := 0) (f := 2) (k2 := 7) kx_147_1 kp_147_26 (tk_0 hT) kf_11_2 (by decide) (rq_0_2 hI) ?_
  refine s_iload_n kx_147_4 rfl ?_
  refine s_iload_n kx_147_5 rfl ?_
  refine s_iload_n kx_147_6 rfl ?_
  refine s_callV2 (k := 7) (s1 := 4) (s2 := 0) (as := [(0, chair), (0, room), (0, person)]) (rest := []) kx_147_7 kp_147_228 (Or.inl rfl) rfl (tk_7 hT) ki_61 kcl_61 rfl rfl (by decide) (m_61 (d := d) (person := person) (to := room) (chair := chair) hT hI ht h70 hN) (kW (fun v1 M2 hI2 fr2 v1p => ?_))
  have hFm2 := hFm.call fr2 rfl
  refine s_istore kx_147_10 km_147_4 rfl ?_
  refine s_iload kx_147_12 rfl ?_
  refine s_iconst (v := (-1)) kx_147_14 (by decide) ?_
  refine s_icmp_ne (t := 24) kx_147_15 (by decide) (fun hc3 => ?_) (fun hc3 => ?_)
  · refine s_aload_n kx_147_24 rfl ?_
    refine r_getR (k := 0) (f := 3) (k2 := 44) kx_147_25 kp_147_33 (tk_0 hT) kf_11_3 (by decide) (rq_0_3 hI2) ?_
    refine s_aload_n kx_147_28 rfl ?_
    refine r_getR (k := 0) (f := 2) (k2 := 7) kx_147_29 kp_147_26 (tk_0 hT) kf_11_2 (by decide) (rq_0_2 hI2) ?_
    refine r_getR (k := 7) (f := 2) (k2 := 42) kx_147_32 kp_147_232 (tk_7 hT) kf_5_2 (by decide) (rq_7_2 hI2) ?_
    refine s_callV2 (k := 44) (s1 := 2) (s2 := 0) (as := [rf 42]) (rest := []) kx_147_35 kp_147_235 (Or.inl rfl) rfl (tk_44 hT) ki_16 kcl_16 rfl rfl (by decide) (m_16 (d := d + 4) hT hI2) (kV (fun M5 hI5 fr5 v4p => ?_))
    have hFm5 := hFm2.call fr5 rfl
    refine s_aload_n kx_147_38 rfl ?_
    refine s_iload_n kx_147_39 rfl ?_
    refine s_iload_n kx_147_40 rfl ?_
    refine s_iload_n kx_147_41 rfl ?_
    refine s_iload kx_147_42 rfl ?_
    refine s_callV2 (k := 0) (s1 := 5) (s2 := 0) (as := [(0, v1), (0, chair), (0, room), (0, person)]) (rest := []) kx_147_44 kp_147_239 (Or.inl rfl) rfl (tk_0 hT) ki_169 kcl_169 rfl rfl (by decide) (m_169 (d := d + 2) (person := person) (room := room) (chair := chair) (minutes := v1) hT hI5 ht ((fr5 7 0 rfl).trans ((fr2 7 0 rfl).trans h70)) (by omega) (by omega) (by omega)) (kV (fun M7 hI7 fr7 v6p => ?_))
    have hFm7 := hFm5.call fr7 rfl
    refine s_aload_n kx_147_47 rfl ?_
    refine r_getR (k := 0) (f := 2) (k2 := 7) kx_147_48 kp_147_26 (tk_0 hT) kf_11_2 (by decide) (rq_0_2 hI7) ?_
    refine s_iload_n kx_147_51 rfl ?_
    refine s_callV2 (k := 7) (s1 := 2) (s2 := 0) (as := [(0, person)]) (rest := []) kx_147_52 kp_147_203 (Or.inl rfl) rfl (tk_7 hT) ki_46 kcl_46 rfl rfl (by decide) (m_46 (d := d + 5) (person := person) hT hI7 (by omega)) (kF (fun v8 v8p => ?_))
    exact s_iret kx_147_55 (Or.inl kq_147) ⟨_, _, rfl, rfl, hI7, hFm7, trivial⟩
  · refine s_aload_n kx_147_18 rfl ?_
    refine s_iconst (v := 2) kx_147_19 (by decide) ?_
    refine s_callV2 (k := 0) (s1 := 2) (s2 := 0) (as := [(0, 2)]) (rest := []) kx_147_20 kp_147_81 (Or.inl rfl) rfl (tk_0 hT) ki_165 kcl_165 rfl rfl (by decide) (m_165 (d := d + 5) (kind := 2) hT hI2) (kW (fun v9 M10 hI10 fr10 v9p => ?_))
    have hFm10 := hFm2.call fr10 rfl
    exact s_iret kx_147_23 (Or.inl kq_147) ⟨_, _, rfl, rfl, hI10, hFm10, trivial⟩
theorem kx_148_0 : x_code k_P 148 0 = some (.aload_n 0, 1) := by decide +kernel
theorem kx_148_1 : x_code k_P 148 1 = some (.getfield 26, 3) := by decide +kernel
theorem kp_148_26 : x_pool k_P 148 26 = (1, 11, 2) := by decide +kernel
theorem kx_148_4 : x_code k_P 148 4 = some (.getfield 120, 3) := by decide +kernel
theorem kp_148_120 : x_pool k_P 148 120 = (1, 5, 0) := by decide +kernel
theorem kx_148_7 : x_code k_P 148 7 = some (.iload_n 1, 1) := by decide +kernel
theorem kx_148_8 : x_code k_P 148 8 = some (.invokevirtual 164, 3) := by decide +kernel
theorem kp_148_164 : x_pool k_P 148 164 = (2, 107, 1) := by decide +kernel
theorem kx_148_11 : x_code k_P 148 11 = some (.ifCond .eq 15, 3) := by decide +kernel
theorem kx_148_26 : x_code k_P 148 26 = some (.aload_n 0, 1) := by decide +kernel
theorem kx_148_27 : x_code k_P 148 27 = some (.iconst 2, 1) := by decide +kernel
theorem kx_148_28 : x_code k_P 148 28 = some (.invokevirtual 81, 3) := by decide +kernel
theorem kp_148_81 : x_pool k_P 148 81 = (2, 165, 1) := by decide +kernel
theorem kx_148_31 : x_code k_P 148 31 = some (.ireturn, 1) := by decide +kernel
theorem kq_148 : x_retk k_P 148 = 1 := by decide +kernel
theorem kx_148_14 : x_code k_P 148 14 = some (.iload_n 2, 1) := by decide +kernel
theorem kx_148_15 : x_code k_P 148 15 = some (.iconst 1, 1) := by decide +kernel
theorem kx_148_16 : x_code k_P 148 16 = some (.if_icmp .lt 10, 3) := by decide +kernel
theorem kx_148_19 : x_code k_P 148 19 = some (.iload_n 2, 1) := by decide +kernel
theorem kx_148_20 : x_code k_P 148 20 = some (.sipush 999, 3) := by decide +kernel
theorem kx_148_23 : x_code k_P 148 23 = some (.if_icmp .le 9, 3) := by decide +kernel
theorem kx_148_32 : x_code k_P 148 32 = some (.aload_n 0, 1) := by decide +kernel
theorem kx_148_33 : x_code k_P 148 33 = some (.getfield 33, 3) := by decide +kernel
theorem kp_148_33 : x_pool k_P 148 33 = (1, 11, 3) := by decide +kernel
theorem kx_148_36 : x_code k_P 148 36 = some (.aload_n 0, 1) := by decide +kernel
theorem kx_148_37 : x_code k_P 148 37 = some (.getfield 26, 3) := by decide +kernel
theorem kx_148_40 : x_code k_P 148 40 = some (.getfield 232, 3) := by decide +kernel
theorem kp_148_232 : x_pool k_P 148 232 = (1, 5, 2) := by decide +kernel
theorem kx_148_43 : x_code k_P 148 43 = some (.invokevirtual 235, 3) := by decide +kernel
theorem kp_148_235 : x_pool k_P 148 235 = (2, 16, 1) := by decide +kernel
theorem kx_148_46 : x_code k_P 148 46 = some (.aload_n 0, 1) := by decide +kernel
theorem kx_148_47 : x_code k_P 148 47 = some (.getfield 26, 3) := by decide +kernel
theorem kx_148_50 : x_code k_P 148 50 = some (.iload_n 1, 1) := by decide +kernel
theorem kx_148_51 : x_code k_P 148 51 = some (.iload_n 2, 1) := by decide +kernel
theorem kx_148_52 : x_code k_P 148 52 = some (.invokevirtual 243, 3) := by decide +kernel
theorem kp_148_243 : x_pool k_P 148 243 = (2, 69, 2) := by decide +kernel
theorem ki_69 : x_mci k_P 69 = 5 := by decide +kernel
theorem kcl_69 : x_maxL k_P 69 ≤ 60 ∧ 3 ≤ x_maxL k_P 69 := by decide +kernel
theorem kx_148_55 : x_code k_P 148 55 = some (.aload_n 0, 1) := by decide +kernel
theorem kx_148_56 : x_code k_P 148 56 = some (.getfield 26, 3) := by decide +kernel
theorem kx_148_59 : x_code k_P 148 59 = some (.iload_n 1, 1) := by decide +kernel
theorem kx_148_60 : x_code k_P 148 60 = some (.invokevirtual 206, 3) := by decide +kernel
theorem kp_148_206 : x_pool k_P 148 206 = (2, 47, 1) := by decide +kernel
theorem kx_148_63 : x_code k_P 148 63 = some (.ireturn, 1) := by decide +kernel
def fS_148_m : List (Nat × Nat) := [(20, 99999), (23, 99999), (37, 99999), (40, 99999), (42, 99999), (43, 99999), (44, 1), (44, 2), (45, 99999), (61, 99999)]
theorem m_148 {xs : Nat → Int} {Ln d : Nat} {T : List cK} {M : cM} (hT : TT T) (hI : Rng M) {t : Nat} (ht : t = 8 ∨ t = 25) (h70 : M 7 0 = ((t : Nat) : Int)) (hN : Fm T M) {person n : Int} : cC k_P xs Ln (d + 5) 148 [rf 0, (0, person), (0, n)] (T, M) (qW T M fS_148_m 0 (fun v M1 => True)) := by
  show cP k_P xs Ln (d + 5) 148 0 [(0, rf 0), (1, (0, person)), (2, (0, n))] [] (T, M) _
  have hFm : Fr fS_148_m M M := Fr.refl
  refine s_aload_n kx_148_0 rfl ?_
  refine r_getR (k := 0) (f := 2) (k2 := 7) kx_148_1 kp_148_26 (tk_0 hT) kf_11_2 (by decide) (rq_0_2 hI) ?_
  refine r_getR (k := 7) (f := 0) (k2 := t) kx_148_4 kp_148_120 (tk_7 hT) kf_5_0 (by decide) h70 ?_
  refine s_iload_n kx_148_7 rfl ?_
  refine s_callV2 (k := t) (s1 := 2) (s2 := 0) (as := [(0, person)]) (rest := []) kx_148_8 kp_148_164 (Or.inl rfl) rfl (tkt_0 hT ht) ki_107 kcl_107 rfl rfl (by decide) (m_107 (d := d + 4) (person := person) hT hI ht) (kF (fun v1 v1p => ?_))
  refine s_if_eq (t := 26) kx_148_11 (by decide) (fun hc2 => ?_) (fun hc2 => ?_)
  · replace v1p := v1p.resolve_left (by omega)
    refine s_aload_n kx_148_26 rfl ?_
    refine s_iconst (v := 2) kx_148_27 (by decide) ?_
    refine s_callV2 (k := 0) (s1 := 2) (s2 := 0) (as := [(0, 2)]) (rest := []) kx_148_28 kp_148_81 (Or.inl rfl) rfl (tk_0 hT) ki_165 kcl_165 rfl rfl (by decide) (m_165 (d := d + 4) (kind := 2) hT hI) (kW (fun v3 M4 hI4 fr4 v3p => ?_))
    have hFm4 := hFm.call fr4 rfl
    exact s_iret kx_148_31 (Or.inl kq_148) ⟨_, _, rfl, rfl, hI4, hFm4, trivial⟩
  · replace v1p := v1p.resolve_right (by omega)
    refine s_iload_n kx_148_14 rfl ?_
    refine s_iconst (v := 1) kx_148_15 (by decide) ?_
    refine s_icmp_lt (t := 26) kx_148_16 (by decide) (fun hc5 => ?_) (fun hc5 => ?_)
    · refine s_aload_n kx_148_26 rfl ?_
      refine s_iconst (v := 2) kx_148_27 (by decide) ?_
      refine s_callV2 (k := 0) (s1 := 2) (s2 := 0) (as := [(0, 2)]) (rest := []) kx_148_28 kp_148_81 (Or.inl rfl) rfl (tk_0 hT) ki_165 kcl_165 rfl rfl (by decide) (m_165 (d := d + 4) (kind := 2) hT hI) (kW (fun v6 M7 hI7 fr7 v6p => ?_))
      have hFm7 := hFm.call fr7 rfl
      exact s_iret kx_148_31 (Or.inl kq_148) ⟨_, _, rfl, rfl, hI7, hFm7, trivial⟩
    · refine s_iload_n kx_148_19 rfl ?_
      refine s_sipush (v := 999) kx_148_20 (by decide) ?_
      refine s_icmp_le (t := 32) kx_148_23 (by decide) (fun hc8 => ?_) (fun hc8 => ?_)
      · refine s_aload_n kx_148_32 rfl ?_
        refine r_getR (k := 0) (f := 3) (k2 := 44) kx_148_33 kp_148_33 (tk_0 hT) kf_11_3 (by decide) (rq_0_3 hI) ?_
        refine s_aload_n kx_148_36 rfl ?_
        refine r_getR (k := 0) (f := 2) (k2 := 7) kx_148_37 kp_148_26 (tk_0 hT) kf_11_2 (by decide) (rq_0_2 hI) ?_
        refine r_getR (k := 7) (f := 2) (k2 := 42) kx_148_40 kp_148_232 (tk_7 hT) kf_5_2 (by decide) (rq_7_2 hI) ?_
        refine s_callV2 (k := 44) (s1 := 2) (s2 := 0) (as := [rf 42]) (rest := []) kx_148_43 kp_148_235 (Or.inl rfl) rfl (tk_44 hT) ki_16 kcl_16 rfl rfl (by decide) (m_16 (d := d + 3) hT hI) (kV (fun M10 hI10 fr10 v9p => ?_))
        have hFm10 := hFm.call fr10 rfl
        refine s_aload_n kx_148_46 rfl ?_
        refine r_getR (k := 0) (f := 2) (k2 := 7) kx_148_47 kp_148_26 (tk_0 hT) kf_11_2 (by decide) (rq_0_2 hI10) ?_
        refine s_iload_n kx_148_50 rfl ?_
        refine s_iload_n kx_148_51 rfl ?_
        refine s_callV2 (k := 7) (s1 := 3) (s2 := 0) (as := [(0, n), (0, person)]) (rest := []) kx_148_52 kp_148_243 (Or.inl rfl) rfl (tk_7 hT) ki_69 kcl_69 rfl rfl (by decide) (m_69 (d := d) (person := person) (minutes := n) hT hI10 ht ((fr10 7 0 rfl).trans h70) (hN.fr hFm10 rfl) (by omega)) (kV (fun M12 hI12 fr12 v11p => ?_))
        have hFm12 := hFm10.call fr12 rfl
        refine s_aload_n kx_148_55 rfl ?_
        refine r_getR (k := 0) (f := 2) (k2 := 7) kx_148_56 kp_148_26 (tk_0 hT) kf_11_2 (by decide) (rq_0_2 hI12) ?_
        refine s_iload_n kx_148_59 rfl ?_
        refine s_callV2 (k := 7) (s1 := 2) (s2 := 0) (as := [(0, person)]) (rest := []) kx_148_60 kp_148_206 (Or.inl rfl) rfl (tk_7 hT) ki_47 kcl_47 rfl rfl (by decide) (m_47 (d := d + 4) (person := person) hT hI12 (by omega)) (kF (fun v13 v13p => ?_))
        exact s_iret kx_148_63 (Or.inl kq_148) ⟨_, _, rfl, rfl, hI12, hFm12, trivial⟩
      · refine s_aload_n kx_148_26 rfl ?_
        refine s_iconst (v := 2) kx_148_27 (by decide) ?_
        refine s_callV2 (k := 0) (s1 := 2) (s2 := 0) (as := [(0, 2)]) (rest := []) kx_148_28 kp_148_81 (Or.inl rfl) rfl (tk_0 hT) ki_165 kcl_165 rfl rfl (by decide) (m_165 (d := d + 4) (kind := 2) hT hI) (kW (fun v14 M15 hI15 fr15 v14p => ?_))
        have hFm15 := hFm.call fr15 rfl
        exact s_iret kx_148_31 (Or.inl kq_148) ⟨_, _, rfl, rfl, hI15, hFm15, trivial⟩
theorem kx_149_0 : x_code k_P 149 0 = some (.aload_n 0, 1) := by decide +kernel
theorem kx_149_1 : x_code k_P 149 1 = some (.getfield 26, 3) := by decide +kernel
theorem kp_149_26 : x_pool k_P 149 26 = (1, 11, 2) := by decide +kernel
theorem kx_149_4 : x_code k_P 149 4 = some (.iload_n 1, 1) := by decide +kernel
theorem kx_149_5 : x_code k_P 149 5 = some (.iload_n 2, 1) := by decide +kernel
theorem kx_149_6 : x_code k_P 149 6 = some (.invokevirtual 247, 3) := by decide +kernel
theorem kp_149_247 : x_pool k_P 149 247 = (2, 70, 2) := by decide +kernel
theorem ki_70 : x_mci k_P 70 = 5 := by decide +kernel
theorem kcl_70 : x_maxL k_P 70 ≤ 60 ∧ 3 ≤ x_maxL k_P 70 := by decide +kernel
theorem kx_149_9 : x_code k_P 149 9 = some (.ifCond .ne 11, 3) := by decide +kernel
theorem kx_149_20 : x_code k_P 149 20 = some (.aload_n 0, 1) := by decide +kernel
theorem kx_149_21 : x_code k_P 149 21 = some (.getfield 33, 3) := by decide +kernel
theorem kp_149_33 : x_pool k_P 149 33 = (1, 11, 3) := by decide +kernel
theorem kx_149_24 : x_code k_P 149 24 = some (.aload_n 0, 1) := by decide +kernel
theorem kx_149_25 : x_code k_P 149 25 = some (.getfield 26, 3) := by decide +kernel
theorem kx_149_28 : x_code k_P 149 28 = some (.getfield 232, 3) := by decide +kernel
theorem kp_149_232 : x_pool k_P 149 232 = (1, 5, 2) := by decide +kernel
theorem kx_149_31 : x_code k_P 149 31 = some (.invokevirtual 235, 3) := by decide +kernel
theorem kp_149_235 : x_pool k_P 149 235 = (2, 16, 1) := by decide +kernel
theorem kx_149_34 : x_code k_P 149 34 = some (.aload_n 0, 1) := by decide +kernel
theorem kx_149_35 : x_code k_P 149 35 = some (.getfield 26, 3) := by decide +kernel
theorem kx_149_38 : x_code k_P 149 38 = some (.iload_n 1, 1) := by decide +kernel
theorem kx_149_39 : x_code k_P 149 39 = some (.iload_n 2, 1) := by decide +kernel
theorem kx_149_40 : x_code k_P 149 40 = some (.invokevirtual 250, 3) := by decide +kernel
theorem kp_149_250 : x_pool k_P 149 250 = (2, 71, 2) := by decide +kernel
theorem ki_71 : x_mci k_P 71 = 5 := by decide +kernel
theorem kcl_71 : x_maxL k_P 71 ≤ 60 ∧ 3 ≤ x_maxL k_P 71 := by decide +kernel
theorem kx_149_43 : x_code k_P 149 43 = some (.iconst 1, 1) := by decide +kernel
theorem kx_149_44 : x_code k_P 149 44 = some (.ireturn, 1) := by decide +kernel
theorem kq_149 : x_retk k_P 149 = 2 := by decide +kernel
theorem kx_149_12 : x_code k_P 149 12 = some (.aload_n 0, 1) := by decide +kernel
theorem kx_149_13 : x_code k_P 149 13 = some (.iconst 3, 1) := by decide +kernel
theorem kx_149_14 : x_code k_P 149 14 = some (.invokevirtual 81, 3) := by decide +kernel
theorem kp_149_81 : x_pool k_P 149 81 = (2, 165, 1) := by decide +kernel
theorem kx_149_17 : x_code k_P 149 17 = some (.pop, 1) := by decide +kernel
theorem kx_149_18 : x_code k_P 149 18 = some (.iconst 0, 1) := by decide +kernel
theorem kx_149_19 : x_code k_P 149 19 = some (.ireturn, 1) := by decide +kernel
def fS_149_m : List (Nat × Nat) := [(42, 99999), (44, 1), (44, 2), (45, 99999), (61, 99999)]
theorem m_149 {xs : Nat → Int} {Ln d : Nat} {T : List cK} {M : cM} (hT : TT T) (hI : Rng M) {t : Nat} (ht : t = 8 ∨ t = 25) (h70 : M 7 0 = ((t : Nat) : Int)) {person chair : Int} : cC k_P xs Ln (d + 3) 149 [rf 0, (0, person), (0, chair)] (T, M) (qW T M fS_149_m 0 (fun v M1 => 0 ≤ v ∧ v ≤ 1)) := by
  show cP k_P xs Ln (d + 3) 149 0 [(0, rf 0), (1, (0, person)), (2, (0, chair))] [] (T, M) _
  have hFm : Fr fS_149_m M M := Fr.refl
  refine s_aload_n kx_149_0 rfl ?_
  refine r_getR (k := 0) (f := 2) (k2 := 7) kx_149_1 kp_149_26 (tk_0 hT) kf_11_2 (by decide) (rq_0_2 hI) ?_
  refine s_iload_n kx_149_4 rfl ?_
  refine s_iload_n kx_149_5 rfl ?_
  refine s_callV2 (k := 7) (s1 := 3) (s2 := 0) (as := [(0, chair), (0, person)]) (rest := []) kx_149_6 kp_149_247 (Or.inl rfl) rfl (tk_7 hT) ki_70 kcl_70 rfl rfl (by decide) (m_70 (d := d + 1) (person := person) (chair := chair) hT hI ht h70) (kF (fun v1 v1p => ?_))
  refine s_if_ne (t := 20) kx_149_9 (by decide) (fun hc2 => ?_) (fun hc2 => ?_)
  · replace v1p := v1p.resolve_right (by omega)
    refine s_aload_n kx_149_20 rfl ?_
    refine r_getR (k := 0) (f := 3) (k2 := 44) kx_149_21 kp_149_33 (tk_0 hT) kf_11_3 (by decide) (rq_0_3 hI) ?_
    refine s_aload_n kx_149_24 rfl ?_
    refine r_getR (k := 0) (f := 2) (k2 := 7) kx_149_25 kp_149_26 (tk_0 hT) kf_11_2 (by decide) (rq_0_2 hI) ?_
    refine r_getR (k := 7) (f := 2) (k2 := 42) kx_149_28 kp_149_232 (tk_7 hT) kf_5_2 (by decide) (rq_7_2 hI) ?_
    refine s_callV2 (k := 44) (s1 := 2) (s2 := 0) (as := [rf 42]) (rest := []) kx_149_31 kp_149_235 (Or.inl rfl) rfl (tk_44 hT) ki_16 kcl_16 rfl rfl (by decide) (m_16 (d := d + 1) hT hI) (kV (fun M4 hI4 fr4 v3p => ?_))
    have hFm4 := hFm.call fr4 rfl
    refine s_aload_n kx_149_34 rfl ?_
    refine r_getR (k := 0) (f := 2) (k2 := 7) kx_149_35 kp_149_26 (tk_0 hT) kf_11_2 (by decide) (rq_0_2 hI4) ?_
    refine s_iload_n kx_149_38 rfl ?_
    refine s_iload_n kx_149_39 rfl ?_
    refine s_callV2 (k := 7) (s1 := 3) (s2 := 0) (as := [(0, chair), (0, person)]) (rest := []) kx_149_40 kp_149_250 (Or.inl rfl) rfl (tk_7 hT) ki_71 kcl_71 rfl rfl (by decide) (m_71 (d := d) (person := person) (chair := chair) hT hI4 (by omega) (by omega)) (kV (fun M6 hI6 fr6 v5p => ?_))
    have hFm6 := hFm4.call fr6 rfl
    refine s_iconst (v := 1) kx_149_43 (by decide) ?_
    exact s_iret kx_149_44 (Or.inr ⟨kq_149, by omega⟩) ⟨_, _, rfl, rfl, hI6, hFm6, (by omega)⟩
  · replace v1p := v1p.resolve_left (by omega)
    refine s_aload_n kx_149_12 rfl ?_
    refine s_iconst (v := 3) kx_149_13 (by decide) ?_
    refine s_callV2 (k := 0) (s1 := 2) (s2 := 0) (as := [(0, 3)]) (rest := []) kx_149_14 kp_149_81 (Or.inl rfl) rfl (tk_0 hT) ki_165 kcl_165 rfl rfl (by decide) (m_165 (d := d + 2) (kind := 3) hT hI) (kW (fun v7 M8 hI8 fr8 v7p => ?_))
    have hFm8 := hFm.call fr8 rfl
    refine s_pop kx_149_17 rfl ?_
    refine s_iconst (v := 0) kx_149_18 (by decide) ?_
    exact s_iret kx_149_19 (Or.inr ⟨kq_149, by omega⟩) ⟨_, _, rfl, rfl, hI8, hFm8, (by omega)⟩
theorem wy_fr {S : List (Nat × Nat)} {M M1 : cM} {t : Nat} {a b : Int} (g : Fr S M M1) (h0 : c_in S t 0 = false) (h4 : ∀ f, c_in S (t + 4) f = false) : wy M1 t a b = wy M t a b := by
  unfold wy
  rw [g t 0 h0, g (t + 4) _ (h4 _)]
theorem nbC_fr {S : List (Nat × Nat)} {M M1 : cM} {t : Nat} {a : Int} (g : Fr S M M1) (h0 : c_in S t 0 = false) (h4 : ∀ f, c_in S (t + 4) f = false) : ∀ n, nbC M1 t a n = nbC M t a n
  | 0 => rfl
  | n + 1 => by
    unfold nbC
    rw [nbC_fr g h0 h4 n, wy_fr g h0 h4]
theorem kx_170_0 : x_code k_P 170 0 = some (.aload_n 0, 1) := by decide +kernel
theorem kx_170_1 : x_code k_P 170 1 = some (.iconst 3, 1) := by decide +kernel
theorem kx_170_2 : x_code k_P 170 2 = some (.invokevirtual 335, 3) := by decide +kernel
theorem kp_170_335 : x_pool k_P 170 335 = (2, 168, 1) := by decide +kernel
theorem kx_170_5 : x_code k_P 170 5 = some (.istore_n 2, 1) := by decide +kernel
theorem km_170_2 : 2 < x_maxL k_P 170 := by decide +kernel
theorem kx_170_6 : x_code k_P 170 6 = some (.iload_n 2, 1) := by decide +kernel
theorem kx_170_7 : x_code k_P 170 7 = some (.iconst 2, 1) := by decide +kernel
theorem kx_170_8 : x_code k_P 170 8 = some (.if_icmp .ne 13, 3) := by decide +kernel
theorem kx_170_11 : x_code k_P 170 11 = some (.aload_n 0, 1) := by decide +kernel
theorem kx_170_12 : x_code k_P 170 12 = some (.getfield 26, 3) := by decide +kernel
theorem kp_170_26 : x_pool k_P 170 26 = (1, 11, 2) := by decide +kernel
theorem kx_170_15 : x_code k_P 170 15 = some (.iload_n 1, 1) := by decide +kernel
theorem kx_170_16 : x_code k_P 170 16 = some (.bipush 10, 2) := by decide +kernel
theorem kx_170_18 : x_code k_P 170 18 = some (.invokevirtual 243, 3) := by decide +kernel
theorem kp_170_243 : x_pool k_P 170 243 = (2, 69, 2) := by decide +kernel
theorem kx_170_21 : x_code k_P 170 21 = some (.aload_n 0, 1) := by decide +kernel
theorem kx_170_22 : x_code k_P 170 22 = some (.getfield 26, 3) := by decide +kernel
theorem kx_170_25 : x_code k_P 170 25 = some (.iload_n 1, 1) := by decide +kernel
theorem kx_170_26 : x_code k_P 170 26 = some (.invokevirtual 191, 3) := by decide +kernel
theorem kp_170_191 : x_pool k_P 170 191 = (2, 43, 1) := by decide +kernel
theorem kx_170_29 : x_code k_P 170 29 = some (.istore_n 3, 1) := by decide +kernel
theorem km_170_3 : 3 < x_maxL k_P 170 := by decide +kernel
theorem kx_170_30 : x_code k_P 170 30 = some (.aload_n 0, 1) := by decide +kernel
theorem kx_170_31 : x_code k_P 170 31 = some (.getfield 26, 3) := by decide +kernel
theorem kx_170_34 : x_code k_P 170 34 = some (.getfield 120, 3) := by decide +kernel
theorem kp_170_120 : x_pool k_P 170 120 = (1, 5, 0) := by decide +kernel
theorem kx_170_37 : x_code k_P 170 37 = some (.iload_n 3, 1) := by decide +kernel
theorem kx_170_38 : x_code k_P 170 38 = some (.invokevirtual 341, 3) := by decide +kernel
theorem kp_170_341 : x_pool k_P 170 341 = (2, 118, 1) := by decide +kernel
theorem ki_118 : x_mci k_P 118 = 9 := by decide +kernel
theorem kcl_118 : x_maxL k_P 118 ≤ 60 ∧ 2 ≤ x_maxL k_P 118 := by decide +kernel
theorem kx_170_41 : x_code k_P 170 41 = some (.istore 4, 2) := by decide +kernel
theorem km_170_4 : 4 < x_maxL k_P 170 := by decide +kernel
theorem kx_170_43 : x_code k_P 170 43 = some (.iload_n 2, 1) := by decide +kernel
theorem kx_170_44 : x_code k_P 170 44 = some (.iconst 1, 1) := by decide +kernel
theorem kx_170_45 : x_code k_P 170 45 = some (.if_icmp .ne 8, 3) := by decide +kernel
theorem kx_170_53 : x_code k_P 170 53 = some (.iconst 0, 1) := by decide +kernel
theorem kx_170_54 : x_code k_P 170 54 = some (.ireturn, 1) := by decide +kernel
theorem kq_170 : x_retk k_P 170 = 1 := by decide +kernel
theorem kx_170_48 : x_code k_P 170 48 = some (.iload 4, 2) := by decide +kernel
theorem kx_170_50 : x_code k_P 170 50 = some (.ifCond .ne 5, 3) := by decide +kernel
theorem kx_170_55 : x_code k_P 170 55 = some (.aload_n 0, 1) := by decide +kernel
theorem kx_170_56 : x_code k_P 170 56 = some (.getfield 26, 3) := by decide +kernel
theorem kx_170_59 : x_code k_P 170 59 = some (.getfield 120, 3) := by decide +kernel
theorem kx_170_62 : x_code k_P 170 62 = some (.iload_n 3, 1) := by decide +kernel
theorem kx_170_63 : x_code k_P 170 63 = some (.aload_n 0, 1) := by decide +kernel
theorem kx_170_64 : x_code k_P 170 64 = some (.iload 4, 2) := by decide +kernel
theorem kx_170_66 : x_code k_P 170 66 = some (.invokevirtual 335, 3) := by decide +kernel
theorem kx_170_69 : x_code k_P 170 69 = some (.invokevirtual 344, 3) := by decide +kernel
theorem kp_170_344 : x_pool k_P 170 344 = (2, 119, 2) := by decide +kernel
theorem ki_119 : x_mci k_P 119 = 9 := by decide +kernel
theorem kcl_119 : x_maxL k_P 119 ≤ 60 ∧ 3 ≤ x_maxL k_P 119 := by decide +kernel
theorem kx_170_72 : x_code k_P 170 72 = some (.istore 5, 2) := by decide +kernel
theorem km_170_5 : 5 < x_maxL k_P 170 := by decide +kernel
theorem kx_170_74 : x_code k_P 170 74 = some (.aload_n 0, 1) := by decide +kernel
theorem kx_170_75 : x_code k_P 170 75 = some (.getfield 26, 3) := by decide +kernel
theorem kx_170_78 : x_code k_P 170 78 = some (.iload_n 1, 1) := by decide +kernel
theorem kx_170_79 : x_code k_P 170 79 = some (.iload 5, 2) := by decide +kernel
theorem kx_170_81 : x_code k_P 170 81 = some (.iload_n 1, 1) := by decide +kernel
theorem kx_170_82 : x_code k_P 170 82 = some (.invokevirtual 347, 3) := by decide +kernel
theorem kp_170_347 : x_pool k_P 170 347 = (2, 60, 3) := by decide +kernel
theorem kx_170_85 : x_code k_P 170 85 = some (.ifCond .eq 7, 3) := by decide +kernel
theorem kx_170_92 : x_code k_P 170 92 = some (.iconst (-1), 1) := by decide +kernel
theorem kx_170_88 : x_code k_P 170 88 = some (.iload_n 1, 1) := by decide +kernel
theorem kx_170_89 : x_code k_P 170 89 = some (.goto 4, 3) := by decide +kernel
theorem kx_170_93 : x_code k_P 170 93 = some (.istore 6, 2) := by decide +kernel
theorem km_170_6 : 6 < x_maxL k_P 170 := by decide +kernel
theorem kx_170_95 : x_code k_P 170 95 = some (.aload_n 0, 1) := by decide +kernel
theorem kx_170_96 : x_code k_P 170 96 = some (.iload_n 1, 1) := by decide +kernel
theorem kx_170_97 : x_code k_P 170 97 = some (.iload 5, 2) := by decide +kernel
theorem kx_170_99 : x_code k_P 170 99 = some (.iload 6, 2) := by decide +kernel
theorem kx_170_101 : x_code k_P 170 101 = some (.aload_n 0, 1) := by decide +kernel
theorem kx_170_102 : x_code k_P 170 102 = some (.getfield 26, 3) := by decide +kernel
theorem kx_170_105 : x_code k_P 170 105 = some (.iload_n 1, 1) := by decide +kernel
theorem kx_170_106 : x_code k_P 170 106 = some (.iload 5, 2) := by decide +kernel
theorem kx_170_108 : x_code k_P 170 108 = some (.iload 6, 2) := by decide +kernel
theorem kx_170_110 : x_code k_P 170 110 = some (.invokevirtual 228, 3) := by decide +kernel
theorem kp_170_228 : x_pool k_P 170 228 = (2, 61, 3) := by decide +kernel
theorem kx_170_113 : x_code k_P 170 113 = some (.invokevirtual 239, 3) := by decide +kernel
theorem kp_170_239 : x_pool k_P 170 239 = (2, 169, 4) := by decide +kernel
theorem kx_170_116 : x_code k_P 170 116 = some (.iload 6, 2) := by decide +kernel
theorem kx_170_118 : x_code k_P 170 118 = some (.iconst (-1), 1) := by decide +kernel
theorem kx_170_119 : x_code k_P 170 119 = some (.if_icmp .ne 7, 3) := by decide +kernel
theorem kx_170_126 : x_code k_P 170 126 = some (.iconst 1, 1) := by decide +kernel
theorem kx_170_127 : x_code k_P 170 127 = some (.ireturn, 1) := by decide +kernel
theorem kx_170_122 : x_code k_P 170 122 = some (.iconst 0, 1) := by decide +kernel
theorem kx_170_123 : x_code k_P 170 123 = some (.goto 4, 3) := by decide +kernel
def fS_170_j8 : List (Nat × Nat) := [(20, 99999), (23, 99999), (37, 99999), (40, 99999), (42, 99999), (43, 99999)]
def fS_170_m : List (Nat × Nat) := [(0, 12), (20, 99999), (23, 99999), (37, 99999), (40, 99999), (42, 99999), (43, 99999)]
def fS_170_j85 : List (Nat × Nat) := []
theorem m_170 {xs : Nat → Int} {Ln d : Nat} {T : List cK} {M : cM} (hT : TT T) (hI : Rng M) {t : Nat} (ht : t = 8 ∨ t = 25) (h70 : M 7 0 = ((t : Nat) : Int)) (hN : Fm T M) {person : Int} (p0 : 0 ≤ person ∧ person ≤ 7) : cC k_P xs Ln (d + 6) 170 [rf 0, (0, person)] (T, M) (qW T M fS_170_m 0 (fun v M1 => True)) := by
  show cP k_P xs Ln (d + 6) 170 0 [(0, rf 0), (1, (0, person))] [] (T, M) _
  have hFm : Fr fS_170_m M M := Fr.refl
  refine s_aload_n kx_170_0 rfl ?_
  refine s_iconst (v := 3) kx_170_1 (by decide) ?_
  refine s_callV2 (k := 0) (s1 := 2) (s2 := 0) (as := [(0, 3)]) (rest := []) kx_170_2 kp_170_335 (Or.inl rfl) rfl (tk_0 hT) ki_168 kcl_168 rfl rfl (by decide) (m_168 (d := d + 5) (many := 3) hT hI (by omega)) (kW (fun v1 M2 hI2 fr2 v1p => ?_))
  have hFm2 := hFm.call fr2 rfl
  refine s_istore_n kx_170_5 km_170_2 rfl ?_
  refine s_iload_n kx_170_6 rfl ?_
  refine s_iconst (v := 2) kx_170_7 (by decide) ?_
  have jn8 : ∀ M9 : cM, Rng M9 → Fr fS_170_j8 M2 M9 → Fr fS_170_m M M9 → cP k_P xs Ln (d + 6) 170 21 [(0, rf 0), (1, (0, person)), (2, (0, v1))] [] (T, M9) (qW T M fS_170_m 0 (fun v M1 => True)) := by
    intro M9 hI9 fj9 hFm9
    refine s_aload_n kx_170_21 rfl ?_
    refine r_getR (k := 0) (f := 2) (k2 := 7) kx_170_22 kp_170_26 (tk_0 hT) kf_11_2 (by decide) (rq_0_2 hI9) ?_
    refine s_iload_n kx_170_25 rfl ?_
    refine s_callV2 (k := 7) (s1 := 2) (s2 := 0) (as := [(0, person)]) (rest := []) kx_170_26 kp_170_191 (Or.inl rfl) rfl (tk_7 hT) ki_43 kcl_43 rfl rfl (by decide) (m_43 (d := d + 5) (person := person) hT hI9 (by omega)) (kF (fun v10 v10p => ?_))
    refine s_istore_n kx_170_29 km_170_3 rfl ?_
    refine s_aload_n kx_170_30 rfl ?_
    refine r_getR (k := 0) (f := 2) (k2 := 7) kx_170_31 kp_170_26 (tk_0 hT) kf_11_2 (by decide) (rq_0_2 hI9) ?_
    refine r_getR (k := 7) (f := 0) (k2 := t) kx_170_34 kp_170_120 (tk_7 hT) kf_5_0 (by decide) ((fj9 7 0 rfl).trans ((fr2 7 0 rfl).trans h70)) ?_
    refine s_iload_n kx_170_37 rfl ?_
    refine s_callV2 (k := t) (s1 := 2) (s2 := 0) (as := [(0, v10)]) (rest := []) kx_170_38 kp_170_341 (Or.inl rfl) rfl (tkt_0 hT ht) ki_118 kcl_118 rfl rfl (by decide) (m_118 (d := d + 3) (a := v10) hT hI9 ht) (kF (fun v11 v11p => ?_))
    refine s_istore kx_170_41 km_170_4 rfl ?_
    refine s_iload_n kx_170_43 rfl ?_
    refine s_iconst (v := 1) kx_170_44 (by decide) ?_
    refine s_icmp_ne (t := 53) kx_170_45 (by decide) (fun hc12 => ?_) (fun hc12 => ?_)
    · refine s_iconst (v := 0) kx_170_53 (by decide) ?_
      exact s_iret kx_170_54 (Or.inl kq_170) ⟨_, _, rfl, rfl, hI9, hFm9, trivial⟩
    · refine s_iload kx_170_48 rfl ?_
      refine s_if_ne (t := 55) kx_170_50 (by decide) (fun hc13 => ?_) (fun hc13 => ?_)
      · refine s_aload_n kx_170_55 rfl ?_
        refine r_getR (k := 0) (f := 2) (k2 := 7) kx_170_56 kp_170_26 (tk_0 hT) kf_11_2 (by decide) (rq_0_2 hI9) ?_
        refine r_getR (k := 7) (f := 0) (k2 := t) kx_170_59 kp_170_120 (tk_7 hT) kf_5_0 (by decide) ((fj9 7 0 rfl).trans ((fr2 7 0 rfl).trans h70)) ?_
        refine s_iload_n kx_170_62 rfl ?_
        refine s_aload_n kx_170_63 rfl ?_
        refine s_iload kx_170_64 rfl ?_
        refine s_callV2 (k := 0) (s1 := 2) (s2 := 2) (as := [(0, v11)]) (rest := [(0, v10), rf t]) kx_170_66 kp_170_335 (Or.inl rfl) rfl (tk_0 hT) ki_168 kcl_168 rfl rfl (by decide) (m_168 (d := d + 5) (many := v11) hT hI9 (by omega)) (kW (fun v14 M15 hI15 fr15 v14p => ?_))
        have hFm15 := hFm9.call fr15 rfl
        refine s_callV2 (k := t) (s1 := 3) (s2 := 0) (as := [(0, v14), (0, v10)]) (rest := []) kx_170_69 kp_170_344 (Or.inl rfl) rfl (tkt_0 hT ht) ki_119 kcl_119 rfl rfl (by decide) (m_119 (d := d + 3) (a := v10) (which := v14) hT hI15 ht (by omega) (by rw [nbC_fr fr15 (by rcases ht with rfl | rfl <;> rfl) (fun _ => (by rcases ht with rfl | rfl <;> rfl)), show M15 t 0 = M9 t 0 from fr15 t 0 (by rcases ht with rfl | rfl <;> rfl)]; omega)) (kF (fun v16 v16p => ?_))
        refine s_istore kx_170_72 km_170_5 rfl ?_
        refine s_aload_n kx_170_74 rfl ?_
        refine r_getR (k := 0) (f := 2) (k2 := 7) kx_170_75 kp_170_26 (tk_0 hT) kf_11_2 (by decide) (rq_0_2 hI15) ?_
        refine s_iload_n kx_170_78 rfl ?_
        refine s_iload kx_170_79 rfl ?_
        refine s_iload_n kx_170_81 rfl ?_
        refine s_callV2 (k := 7) (s1 := 4) (s2 := 0) (as := [(0, person), (0, v16), (0, person)]) (rest := []) kx_170_82 kp_170_347 (Or.inl rfl) rfl (tk_7 hT) ki_60 kcl_60 rfl rfl (by decide) (m_60 (d := d + 2) (person := person) (to := v16) (chair := person) hT hI15 ht ((fr15 7 0 rfl).trans ((fj9 7 0 rfl).trans ((fr2 7 0 rfl).trans h70))) (by omega)) (kF (fun v17 v17p => ?_))
        have jn22 : ∀ (y21 : Int), ((-1) ≤ y21) → (y21 ≤ 7) → cP k_P xs Ln (d + 6) 170 93 [(0, rf 0), (1, (0, person)), (5, (0, v16))] [(0, y21)] (T, M15) (qW T M fS_170_m 0 (fun v M1 => True)) := by
          intro y21 a23 a24
          refine s_istore kx_170_93 km_170_6 rfl ?_
          refine s_aload_n kx_170_95 rfl ?_
          refine s_iload_n kx_170_96 rfl ?_
          refine s_iload kx_170_97 rfl ?_
          refine s_iload kx_170_99 rfl ?_
          refine s_aload_n kx_170_101 rfl ?_
          refine r_getR (k := 0) (f := 2) (k2 := 7) kx_170_102 kp_170_26 (tk_0 hT) kf_11_2 (by decide) (rq_0_2 hI15) ?_
          refine s_iload_n kx_170_105 rfl ?_
          refine s_iload kx_170_106 rfl ?_
          refine s_iload kx_170_108 rfl ?_
          refine s_callV2 (k := 7) (s1 := 4) (s2 := 4) (as := [(0, y21), (0, v16), (0, person)]) (rest := [(0, y21), (0, v16), (0, person), rf 0]) kx_170_110 kp_170_228 (Or.inl rfl) rfl (tk_7 hT) ki_61 kcl_61 rfl rfl (by decide) (m_61 (d := d) (person := person) (to := v16) (chair := y21) hT hI15 ht ((fr15 7 0 rfl).trans ((fj9 7 0 rfl).trans ((fr2 7 0 rfl).trans h70))) (hN.fr hFm15 rfl)) (kW (fun v25 M26 hI26 fr26 v25p => ?_))
          have hFm26 := hFm15.call fr26 rfl
          refine s_callV2 (k := 0) (s1 := 5) (s2 := 0) (as := [(0, v25), (0, y21), (0, v16), (0, person)]) (rest := []) kx_170_113 kp_170_239 (Or.inl rfl) rfl (tk_0 hT) ki_169 kcl_169 rfl rfl (by decide) (m_169 (d := d + 2) (person := person) (room := v16) (chair := y21) (minutes := v25) hT hI26 ht ((fr26 7 0 rfl).trans ((fr15 7 0 rfl).trans ((fj9 7 0 rfl).trans ((fr2 7 0 rfl).trans h70)))) (by omega) (by omega) (by omega)) (kV (fun M28 hI28 fr28 v27p => ?_))
          have hFm28 := hFm26.call fr28 rfl
          refine s_iload kx_170_116 rfl ?_
          refine s_iconst (v := (-1)) kx_170_118 (by decide) ?_
          refine s_icmp_ne (t := 126) kx_170_119 (by decide) (fun hc29 => ?_) (fun hc29 => ?_)
          · refine s_iconst (v := 1) kx_170_126 (by decide) ?_
            exact s_iret kx_170_127 (Or.inl kq_170) ⟨_, _, rfl, rfl, hI28, hFm28, trivial⟩
          · refine s_iconst (v := 0) kx_170_122 (by decide) ?_
            refine s_goto (t := 127) kx_170_123 (by decide) ?_
            exact s_iret kx_170_127 (Or.inl kq_170) ⟨_, _, rfl, rfl, hI28, hFm28, trivial⟩
        refine s_if_eq (t := 92) kx_170_85 (by decide) (fun hc18 => ?_) (fun hc18 => ?_)
        · have hJ19 : Fr fS_170_j85 M15 M15 := Fr.refl
          replace v17p := v17p.resolve_left (by omega)
          refine s_iconst (v := (-1)) kx_170_92 (by decide) ?_
          exact cP.wk (lS1 rfl (lS1 rfl (lS1 rfl lS0))) (jn22 (-1) (by omega) (by omega))
        · have hJ20 : Fr fS_170_j85 M15 M15 := Fr.refl
          replace v17p := v17p.resolve_right (by omega)
          refine s_iload_n kx_170_88 rfl ?_
          refine s_goto (t := 93) kx_170_89 (by decide) ?_
          exact cP.wk (lS1 rfl (lS1 rfl (lS1 rfl lS0))) (jn22 person (by omega) (by omega))
      · refine s_iconst (v := 0) kx_170_53 (by decide) ?_
        exact s_iret kx_170_54 (Or.inl kq_170) ⟨_, _, rfl, rfl, hI9, hFm9, trivial⟩
  refine s_icmp_ne (t := 21) kx_170_8 (by decide) (fun hc3 => ?_) (fun hc3 => ?_)
  · have hJ4 : Fr fS_170_j8 M2 M2 := Fr.refl
    exact cP.wk (lS1 rfl (lS1 rfl (lS1 rfl lS0))) (jn8 M2 hI2 hJ4 hFm2)
  · have hJ5 : Fr fS_170_j8 M2 M2 := Fr.refl
    refine s_aload_n kx_170_11 rfl ?_
    refine r_getR (k := 0) (f := 2) (k2 := 7) kx_170_12 kp_170_26 (tk_0 hT) kf_11_2 (by decide) (rq_0_2 hI2) ?_
    refine s_iload_n kx_170_15 rfl ?_
    refine s_bipush (v := 10) kx_170_16 (by decide) ?_
    refine s_callV2 (k := 7) (s1 := 3) (s2 := 0) (as := [(0, 10), (0, person)]) (rest := []) kx_170_18 kp_170_243 (Or.inl rfl) rfl (tk_7 hT) ki_69 kcl_69 rfl rfl (by decide) (m_69 (d := d + 1) (person := person) (minutes := 10) hT hI2 ht ((fr2 7 0 rfl).trans h70) (hN.fr hFm2 rfl) (by omega)) (kV (fun M7 hI7 fr7 v6p => ?_))
    have hFm7 := hFm2.call fr7 rfl
    have hFj87 := hJ5.call fr7 rfl
    exact cP.wk (lS1 rfl (lS1 rfl (lS1 rfl lS0))) (jn8 M7 hI7 hFj87 hFm7)
theorem kx_150_0 : x_code k_P 150 0 = some (.iload_n 1, 1) := by decide +kernel
theorem kx_150_1 : x_code k_P 150 1 = some (.iconst 1, 1) := by decide +kernel
theorem kx_150_2 : x_code k_P 150 2 = some (.if_icmp .lt 9, 3) := by decide +kernel
theorem kx_150_11 : x_code k_P 150 11 = some (.aload_n 0, 1) := by decide +kernel
theorem kx_150_12 : x_code k_P 150 12 = some (.iconst 3, 1) := by decide +kernel
theorem kx_150_13 : x_code k_P 150 13 = some (.invokevirtual 81, 3) := by decide +kernel
theorem kp_150_81 : x_pool k_P 150 81 = (2, 165, 1) := by decide +kernel
theorem kx_150_16 : x_code k_P 150 16 = some (.ireturn, 1) := by decide +kernel
theorem kq_150 : x_retk k_P 150 = 1 := by decide +kernel
theorem kx_150_5 : x_code k_P 150 5 = some (.iload_n 1, 1) := by decide +kernel
theorem kx_150_6 : x_code k_P 150 6 = some (.bipush 30, 2) := by decide +kernel
theorem kx_150_8 : x_code k_P 150 8 = some (.if_icmp .le 9, 3) := by decide +kernel
theorem kx_150_17 : x_code k_P 150 17 = some (.aload_n 0, 1) := by decide +kernel
theorem kx_150_18 : x_code k_P 150 18 = some (.getfield 33, 3) := by decide +kernel
theorem kp_150_33 : x_pool k_P 150 33 = (1, 11, 3) := by decide +kernel
theorem kx_150_21 : x_code k_P 150 21 = some (.aload_n 0, 1) := by decide +kernel
theorem kx_150_22 : x_code k_P 150 22 = some (.getfield 26, 3) := by decide +kernel
theorem kp_150_26 : x_pool k_P 150 26 = (1, 11, 2) := by decide +kernel
theorem kx_150_25 : x_code k_P 150 25 = some (.getfield 232, 3) := by decide +kernel
theorem kp_150_232 : x_pool k_P 150 232 = (1, 5, 2) := by decide +kernel
theorem kx_150_28 : x_code k_P 150 28 = some (.invokevirtual 235, 3) := by decide +kernel
theorem kp_150_235 : x_pool k_P 150 235 = (2, 16, 1) := by decide +kernel
theorem kx_150_31 : x_code k_P 150 31 = some (.iconst 0, 1) := by decide +kernel
theorem kx_150_32 : x_code k_P 150 32 = some (.istore_n 2, 1) := by decide +kernel
theorem km_150_2 : 2 < x_maxL k_P 150 := by decide +kernel
theorem kx_150_33 : x_code k_P 150 33 = some (.iconst 0, 1) := by decide +kernel
theorem kx_150_34 : x_code k_P 150 34 = some (.istore_n 3, 1) := by decide +kernel
theorem km_150_3 : 3 < x_maxL k_P 150 := by decide +kernel
theorem kx_150_35 : x_code k_P 150 35 = some (.iload_n 3, 1) := by decide +kernel
theorem kx_150_36 : x_code k_P 150 36 = some (.iload_n 1, 1) := by decide +kernel
theorem kx_150_37 : x_code k_P 150 37 = some (.if_icmp .ge 42, 3) := by decide +kernel
theorem kx_150_79 : x_code k_P 150 79 = some (.iload_n 2, 1) := by decide +kernel
theorem kx_150_80 : x_code k_P 150 80 = some (.ireturn, 1) := by decide +kernel
theorem kx_150_40 : x_code k_P 150 40 = some (.iconst 0, 1) := by decide +kernel
theorem kx_150_41 : x_code k_P 150 41 = some (.istore 4, 2) := by decide +kernel
theorem km_150_4 : 4 < x_maxL k_P 150 := by decide +kernel
theorem kx_150_43 : x_code k_P 150 43 = some (.iload 4, 2) := by decide +kernel
theorem kx_150_45 : x_code k_P 150 45 = some (.aload_n 0, 1) := by decide +kernel
theorem kx_150_46 : x_code k_P 150 46 = some (.getfield 26, 3) := by decide +kernel
theorem kx_150_49 : x_code k_P 150 49 = some (.getfield 120, 3) := by decide +kernel
theorem kp_150_120 : x_pool k_P 150 120 = (1, 5, 0) := by decide +kernel
theorem kx_150_52 : x_code k_P 150 52 = some (.getfield 128, 3) := by decide +kernel
theorem kp_150_128 : x_pool k_P 150 128 = (1, 9, 1) := by decide +kernel
theorem kx_150_55 : x_code k_P 150 55 = some (.if_icmp .ge 18, 3) := by decide +kernel
theorem kx_150_73 : x_code k_P 150 73 = some (.iinc 3 1, 3) := by decide +kernel
theorem kx_150_76 : x_code k_P 150 76 = some (.goto (-41), 3) := by decide +kernel
theorem kx_150_58 : x_code k_P 150 58 = some (.iload_n 2, 1) := by decide +kernel
theorem kx_150_59 : x_code k_P 150 59 = some (.aload_n 0, 1) := by decide +kernel
theorem kx_150_60 : x_code k_P 150 60 = some (.iload 4, 2) := by decide +kernel
theorem kx_150_62 : x_code k_P 150 62 = some (.invokevirtual 253, 3) := by decide +kernel
theorem kp_150_253 : x_pool k_P 150 253 = (2, 170, 1) := by decide +kernel
theorem ki_170 : x_mci k_P 170 = 11 := by decide +kernel
theorem kcl_170 : x_maxL k_P 170 ≤ 60 ∧ 2 ≤ x_maxL k_P 170 := by decide +kernel
theorem kx_150_65 : x_code k_P 150 65 = some (.iadd, 1) := by decide +kernel
theorem kx_150_66 : x_code k_P 150 66 = some (.istore_n 2, 1) := by decide +kernel
theorem kx_150_67 : x_code k_P 150 67 = some (.iinc 4 1, 3) := by decide +kernel
theorem kx_150_70 : x_code k_P 150 70 = some (.goto (-27), 3) := by decide +kernel
def fS_150_l35 : List (Nat × Nat) := [(0, 12), (20, 99999), (23, 99999), (37, 99999), (40, 99999), (42, 99999), (43, 99999)]
def fS_150_l43 : List (Nat × Nat) := [(0, 12), (20, 99999), (23, 99999), (37, 99999), (40, 99999), (42, 99999), (43, 99999)]
def fS_150_m : List (Nat × Nat) := [(0, 12), (20, 99999), (23, 99999), (37, 99999), (40, 99999), (42, 99999), (43, 99999), (44, 1), (44, 2), (45, 99999), (61, 99999)]
theorem m_150 {xs : Nat → Int} {Ln d : Nat} {T : List cK} {M : cM} (hT : TT T) (hI : Rng M) {t : Nat} (ht : t = 8 ∨ t = 25) (h70 : M 7 0 = ((t : Nat) : Int)) (hN : Fm T M) {n : Int} : cC k_P xs Ln (d + 7) 150 [rf 0, (0, n)] (T, M) (qW T M fS_150_m 0 (fun v M1 => True)) := by
  show cP k_P xs Ln (d + 7) 150 0 [(0, rf 0), (1, (0, n))] [] (T, M) _
  have hFm : Fr fS_150_m M M := Fr.refl
  refine s_iload_n kx_150_0 rfl ?_
  refine s_iconst (v := 1) kx_150_1 (by decide) ?_
  refine s_icmp_lt (t := 11) kx_150_2 (by decide) (fun hc1 => ?_) (fun hc1 => ?_)
  · refine s_aload_n kx_150_11 rfl ?_
    refine s_iconst (v := 3) kx_150_12 (by decide) ?_
    refine s_callV2 (k := 0) (s1 := 2) (s2 := 0) (as := [(0, 3)]) (rest := []) kx_150_13 kp_150_81 (Or.inl rfl) rfl (tk_0 hT) ki_165 kcl_165 rfl rfl (by decide) (m_165 (d := d + 6) (kind := 3) hT hI) (kW (fun v2 M3 hI3 fr3 v2p => ?_))
    have hFm3 := hFm.call fr3 rfl
    exact s_iret kx_150_16 (Or.inl kq_150) ⟨_, _, rfl, rfl, hI3, hFm3, trivial⟩
  · refine s_iload_n kx_150_5 rfl ?_
    refine s_bipush (v := 30) kx_150_6 (by decide) ?_
    refine s_icmp_le (t := 17) kx_150_8 (by decide) (fun hc4 => ?_) (fun hc4 => ?_)
    · refine s_aload_n kx_150_17 rfl ?_
      refine r_getR (k := 0) (f := 3) (k2 := 44) kx_150_18 kp_150_33 (tk_0 hT) kf_11_3 (by decide) (rq_0_3 hI) ?_
      refine s_aload_n kx_150_21 rfl ?_
      refine r_getR (k := 0) (f := 2) (k2 := 7) kx_150_22 kp_150_26 (tk_0 hT) kf_11_2 (by decide) (rq_0_2 hI) ?_
      refine r_getR (k := 7) (f := 2) (k2 := 42) kx_150_25 kp_150_232 (tk_7 hT) kf_5_2 (by decide) (rq_7_2 hI) ?_
      refine s_callV2 (k := 44) (s1 := 2) (s2 := 0) (as := [rf 42]) (rest := []) kx_150_28 kp_150_235 (Or.inl rfl) rfl (tk_44 hT) ki_16 kcl_16 rfl rfl (by decide) (m_16 (d := d + 5) hT hI) (kV (fun M6 hI6 fr6 v5p => ?_))
      have hFm6 := hFm.call fr6 rfl
      refine s_iconst (v := 0) kx_150_31 (by decide) ?_
      refine s_istore_n kx_150_32 km_150_2 rfl ?_
      refine s_iconst (v := 0) kx_150_33 (by decide) ?_
      refine s_istore_n kx_150_34 km_150_3 rfl ?_
      have key10 : ∀ n11 : Nat, ∀ (x2_7 x3_8 : Int), ∀ M9 : cM, Rng M9 → Fr fS_150_m M M9 → Fr fS_150_l35 M6 M9 → (0 ≤ x3_8) → (2147483647 - x3_8).toNat < n11 → cP k_P xs Ln (d + 7) 150 35 [(0, rf 0), (1, (0, n)), (2, (0, x2_7)), (3, (0, x3_8))] [] (T, M9) (qW T M fS_150_m 0 (fun v M1 => True)) := by
        intro n11
        induction n11 with
        | zero => intro x2_7 x3_8 M9 hI9 hFm9 fl9 i12 hm13; exact absurd hm13 (Nat.not_lt_zero _)
        | succ n11 ih14 =>
          intro x2_7 x3_8 M9 hI9 hFm9 fl9 i12 hm13
          refine s_iload_n kx_150_35 rfl ?_
          refine s_iload_n kx_150_36 rfl ?_
          refine s_icmp_ge (t := 79) kx_150_37 (by decide) (fun hc15 => ?_) (fun hc15 => ?_)
          · refine s_iload_n kx_150_79 rfl ?_
            exact s_iret kx_150_80 (Or.inl kq_150) ⟨_, _, rfl, rfl, hI9, hFm9, trivial⟩
          · refine s_iconst (v := 0) kx_150_40 (by decide) ?_
            refine s_istore kx_150_41 km_150_4 rfl ?_
            have key19 : ∀ n20 : Nat, ∀ (x2_16 x4_17 : Int), ∀ M18 : cM, Rng M18 → Fr fS_150_m M M18 → Fr fS_150_l35 M6 M18 → Fr fS_150_l43 M9 M18 → (0 ≤ x4_17) → (2147483647 - x4_17).toNat < n20 → cP k_P xs Ln (d + 7) 150 43 [(0, rf 0), (1, (0, n)), (2, (0, x2_16)), (3, (0, x3_8)), (4, (0, x4_17))] [] (T, M18) (qW T M fS_150_m 0 (fun v M1 => True)) := by
              intro n20
              induction n20 with
              | zero => intro x2_16 x4_17 M18 hI18 hFm18 hFl3518 fl18 i21 hm22; exact absurd hm22 (Nat.not_lt_zero _)
              | succ n20 ih23 =>
                intro x2_16 x4_17 M18 hI18 hFm18 hFl3518 fl18 i21 hm22
                refine s_iload kx_150_43 rfl ?_
                refine s_aload_n kx_150_45 rfl ?_
                refine r_getR (k := 0) (f := 2) (k2 := 7) kx_150_46 kp_150_26 (tk_0 hT) kf_11_2 (by decide) (rq_0_2 hI18) ?_
                refine r_getR (k := 7) (f := 0) (k2 := t) kx_150_49 kp_150_120 (tk_7 hT) kf_5_0 (by decide) ((fl18 7 0 rfl).trans ((fl9 7 0 rfl).trans ((fr6 7 0 rfl).trans h70))) ?_
                refine r_getI (k := t) (f := 1) kx_150_52 kp_150_128 (tkt_0 hT ht) kf_9_1 (fun _ => rfl) (rgt_0_1 hI18 ht) (fun v24 v24e v24a v24b => ?_)
                have v24z : M t 1 = v24 := (((fl18 t 1 (by rcases ht with rfl | rfl <;> rfl)).trans ((fl9 t 1 (by rcases ht with rfl | rfl <;> rfl)).trans (fr6 t 1 (by rcases ht with rfl | rfl <;> rfl))))).symm.trans v24e
                refine s_icmp_ge (t := 73) kx_150_55 (by decide) (fun hc25 => ?_) (fun hc25 => ?_)
                · refine r_iinc kx_150_73 rfl km_150_3 (by decide) ⟨by omega, by omega⟩ rfl ?_
                  refine s_goto (t := 35) kx_150_76 (by decide) ?_
                  exact cP.wk (lS1 rfl (lS1 rfl (lS1 rfl (lS1 rfl lS0)))) (ih14 x2_16 (x3_8 + 1) M18 hI18 hFm18 hFl3518 (by omega) (by omega))
                · refine s_iload_n kx_150_58 rfl ?_
                  refine s_aload_n kx_150_59 rfl ?_
                  refine s_iload kx_150_60 rfl ?_
                  refine s_callV2 (k := 0) (s1 := 2) (s2 := 1) (as := [(0, x4_17)]) (rest := [(0, x2_16)]) kx_150_62 kp_150_253 (Or.inl rfl) rfl (tk_0 hT) ki_170 kcl_170 rfl rfl (by decide) (m_170 (d := d) (person := x4_17) hT hI18 ht ((fl18 7 0 rfl).trans ((fl9 7 0 rfl).trans ((fr6 7 0 rfl).trans h70))) (hN.fr hFm18 rfl) (by omega)) (kW (fun v26 M27 hI27 fr27 v26p => ?_))
                  have hFm27 := hFm18.call fr27 rfl
                  have hFl3527 := hFl3518.call fr27 rfl
                  have hFl4327 := fl18.call fr27 rfl
                  refine r_iaddR kx_150_65 (fun v28 v28a v28b => ?_)
                  refine s_istore_n kx_150_66 km_150_2 rfl ?_
                  refine r_iinc kx_150_67 rfl km_150_4 (by decide) ⟨by omega, by omega⟩ rfl ?_
                  refine s_goto (t := 43) kx_150_70 (by decide) ?_
                  exact cP.wk (lS1 rfl (lS1 rfl (lS1 rfl (lS1 rfl (lS1 rfl lS0))))) (ih23 v28 (x4_17 + 1) M27 hI27 hFm27 hFl3527 hFl4327 (by omega) (by omega))
            exact cP.wk (lS1 rfl (lS1 rfl (lS1 rfl (lS1 rfl (lS1 rfl lS0))))) (key19 _ x2_7 0 M9 hI9 hFm9 fl9 Fr.refl (by omega) (Nat.lt_succ_self _))
      exact cP.wk (lS1 rfl (lS1 rfl (lS1 rfl (lS1 rfl lS0)))) (key10 _ 0 0 M6 hI6 hFm6 Fr.refl (by omega) (Nat.lt_succ_self _))
    · refine s_aload_n kx_150_11 rfl ?_
      refine s_iconst (v := 3) kx_150_12 (by decide) ?_
      refine s_callV2 (k := 0) (s1 := 2) (s2 := 0) (as := [(0, 3)]) (rest := []) kx_150_13 kp_150_81 (Or.inl rfl) rfl (tk_0 hT) ki_165 kcl_165 rfl rfl (by decide) (m_165 (d := d + 6) (kind := 3) hT hI) (kW (fun v29 M30 hI30 fr30 v29p => ?_))
      have hFm30 := hFm.call fr30 rfl
      exact s_iret kx_150_16 (Or.inl kq_150) ⟨_, _, rfl, rfl, hI30, hFm30, trivial⟩
theorem kx_151_0 : x_code k_P 151 0 = some (.aload_n 0, 1) := by decide +kernel
theorem kx_151_1 : x_code k_P 151 1 = some (.getfield 33, 3) := by decide +kernel
theorem kp_151_33 : x_pool k_P 151 33 = (1, 11, 3) := by decide +kernel
theorem kx_151_4 : x_code k_P 151 4 = some (.getfield 110, 3) := by decide +kernel
theorem kp_151_110 : x_pool k_P 151 110 = (1, 2, 2) := by decide +kernel
theorem kx_151_7 : x_code k_P 151 7 = some (.ifCond .ne 11, 3) := by decide +kernel
theorem kx_151_18 : x_code k_P 151 18 = some (.aload_n 0, 1) := by decide +kernel
theorem kx_151_19 : x_code k_P 151 19 = some (.getfield 33, 3) := by decide +kernel
theorem kx_151_22 : x_code k_P 151 22 = some (.aload_n 0, 1) := by decide +kernel
theorem kx_151_23 : x_code k_P 151 23 = some (.getfield 26, 3) := by decide +kernel
theorem kp_151_26 : x_pool k_P 151 26 = (1, 11, 2) := by decide +kernel
theorem kx_151_26 : x_code k_P 151 26 = some (.getfield 232, 3) := by decide +kernel
theorem kp_151_232 : x_pool k_P 151 232 = (1, 5, 2) := by decide +kernel
theorem kx_151_29 : x_code k_P 151 29 = some (.invokevirtual 256, 3) := by decide +kernel
theorem kp_151_256 : x_pool k_P 151 256 = (2, 17, 1) := by decide +kernel
theorem ki_17 : x_mci k_P 17 = 2 := by decide +kernel
theorem kcl_17 : x_maxL k_P 17 ≤ 60 ∧ 2 ≤ x_maxL k_P 17 := by decide +kernel
theorem kx_151_32 : x_code k_P 151 32 = some (.iconst 1, 1) := by decide +kernel
theorem kx_151_33 : x_code k_P 151 33 = some (.ireturn, 1) := by decide +kernel
theorem kq_151 : x_retk k_P 151 = 2 := by decide +kernel
theorem kx_151_10 : x_code k_P 151 10 = some (.aload_n 0, 1) := by decide +kernel
theorem kx_151_11 : x_code k_P 151 11 = some (.iconst 4, 1) := by decide +kernel
theorem kx_151_12 : x_code k_P 151 12 = some (.invokevirtual 81, 3) := by decide +kernel
theorem kp_151_81 : x_pool k_P 151 81 = (2, 165, 1) := by decide +kernel
theorem kx_151_15 : x_code k_P 151 15 = some (.pop, 1) := by decide +kernel
theorem kx_151_16 : x_code k_P 151 16 = some (.iconst 0, 1) := by decide +kernel
theorem kx_151_17 : x_code k_P 151 17 = some (.ireturn, 1) := by decide +kernel
def fS_151_m : List (Nat × Nat) := [(42, 99999), (44, 1), (44, 2), (61, 99999)]
theorem m_151 {xs : Nat → Int} {Ln d : Nat} {T : List cK} {M : cM} (hT : TT T) (hI : Rng M) : cC k_P xs Ln (d + 2) 151 [rf 0] (T, M) (qW T M fS_151_m 0 (fun v M1 => 0 ≤ v ∧ v ≤ 1)) := by
  show cP k_P xs Ln (d + 2) 151 0 [(0, rf 0)] [] (T, M) _
  have hFm : Fr fS_151_m M M := Fr.refl
  refine s_aload_n kx_151_0 rfl ?_
  refine r_getR (k := 0) (f := 3) (k2 := 44) kx_151_1 kp_151_33 (tk_0 hT) kf_11_3 (by decide) (rq_0_3 hI) ?_
  refine r_getU (k := 44) (f := 2) kx_151_4 kp_151_110 (tk_44 hT) kf_2_2 (fun _ => rfl) (fun v1 v1e => ?_)
  refine s_if_ne (t := 18) kx_151_7 (by decide) (fun hc2 => ?_) (fun hc2 => ?_)
  · refine s_aload_n kx_151_18 rfl ?_
    refine r_getR (k := 0) (f := 3) (k2 := 44) kx_151_19 kp_151_33 (tk_0 hT) kf_11_3 (by decide) (rq_0_3 hI) ?_
    refine s_aload_n kx_151_22 rfl ?_
    refine r_getR (k := 0) (f := 2) (k2 := 7) kx_151_23 kp_151_26 (tk_0 hT) kf_11_2 (by decide) (rq_0_2 hI) ?_
    refine r_getR (k := 7) (f := 2) (k2 := 42) kx_151_26 kp_151_232 (tk_7 hT) kf_5_2 (by decide) (rq_7_2 hI) ?_
    refine s_callV2 (k := 44) (s1 := 2) (s2 := 0) (as := [rf 42]) (rest := []) kx_151_29 kp_151_256 (Or.inl rfl) rfl (tk_44 hT) ki_17 kcl_17 rfl rfl (by decide) (m_17 (d := d) hT hI) (kV (fun M4 hI4 fr4 v3p => ?_))
    have hFm4 := hFm.call fr4 rfl
    refine s_iconst (v := 1) kx_151_32 (by decide) ?_
    exact s_iret kx_151_33 (Or.inr ⟨kq_151, by omega⟩) ⟨_, _, rfl, rfl, hI4, hFm4, (by omega)⟩
  · refine s_aload_n kx_151_10 rfl ?_
    refine s_iconst (v := 4) kx_151_11 (by decide) ?_
    refine s_callV2 (k := 0) (s1 := 2) (s2 := 0) (as := [(0, 4)]) (rest := []) kx_151_12 kp_151_81 (Or.inl rfl) rfl (tk_0 hT) ki_165 kcl_165 rfl rfl (by decide) (m_165 (d := d + 1) (kind := 4) hT hI) (kW (fun v5 M6 hI6 fr6 v5p => ?_))
    have hFm6 := hFm.call fr6 rfl
    refine s_pop kx_151_15 rfl ?_
    refine s_iconst (v := 0) kx_151_16 (by decide) ?_
    exact s_iret kx_151_17 (Or.inr ⟨kq_151, by omega⟩) ⟨_, _, rfl, rfl, hI6, hFm6, (by omega)⟩
theorem kx_152_0 : x_code k_P 152 0 = some (.iload_n 1, 1) := by decide +kernel
theorem kx_152_1 : x_code k_P 152 1 = some (.ifCond .ge 11, 3) := by decide +kernel
theorem kx_152_12 : x_code k_P 152 12 = some (.aload_n 0, 1) := by decide +kernel
theorem kx_152_13 : x_code k_P 152 13 = some (.iload_n 1, 1) := by decide +kernel
theorem kx_152_14 : x_code k_P 152 14 = some (.putfield 75, 3) := by decide +kernel
theorem kp_152_75 : x_pool k_P 152 75 = (1, 11, 12) := by decide +kernel
theorem kx_152_17 : x_code k_P 152 17 = some (.iconst 1, 1) := by decide +kernel
theorem kx_152_18 : x_code k_P 152 18 = some (.ireturn, 1) := by decide +kernel
theorem kq_152 : x_retk k_P 152 = 2 := by decide +kernel
theorem kx_152_4 : x_code k_P 152 4 = some (.aload_n 0, 1) := by decide +kernel
theorem kx_152_5 : x_code k_P 152 5 = some (.iconst 5, 1) := by decide +kernel
theorem kx_152_6 : x_code k_P 152 6 = some (.invokevirtual 81, 3) := by decide +kernel
theorem kp_152_81 : x_pool k_P 152 81 = (2, 165, 1) := by decide +kernel
theorem kx_152_9 : x_code k_P 152 9 = some (.pop, 1) := by decide +kernel
theorem kx_152_10 : x_code k_P 152 10 = some (.iconst 0, 1) := by decide +kernel
theorem kx_152_11 : x_code k_P 152 11 = some (.ireturn, 1) := by decide +kernel
def fS_152_m : List (Nat × Nat) := [(0, 12), (61, 99999)]
theorem m_152 {xs : Nat → Int} {Ln d : Nat} {T : List cK} {M : cM} (hT : TT T) (hI : Rng M) {seed : Int} (p0 : seed ≤ 2147483647) : cC k_P xs Ln (d + 1) 152 [rf 0, (0, seed)] (T, M) (qW T M fS_152_m 0 (fun v M1 => (v = 1 ∧ 0 ≤ seed) ∨ (v = 0 ∧ seed < 0))) := by
  show cP k_P xs Ln (d + 1) 152 0 [(0, rf 0), (1, (0, seed))] [] (T, M) _
  have hFm : Fr fS_152_m M M := Fr.refl
  refine s_iload_n kx_152_0 rfl ?_
  refine s_if_ge (t := 12) kx_152_1 (by decide) (fun hc1 => ?_) (fun hc1 => ?_)
  · refine s_aload_n kx_152_12 rfl ?_
    refine s_iload_n kx_152_13 rfl ?_
    refine r_put (k := 0) (f := 12) kx_152_14 kp_152_75 (tk_0 hT) kf_11_12 rfl (by decide) (by decide) hI (ru_0_12 (by omega) (by omega)) (fun M2 hI2 u2 => ?_)
    have hFm2 := hFm.up u2 rfl
    refine s_iconst (v := 1) kx_152_17 (by decide) ?_
    exact s_iret kx_152_18 (Or.inr ⟨kq_152, by omega⟩) ⟨_, _, rfl, rfl, hI2, hFm2, (by omega)⟩
  · refine s_aload_n kx_152_4 rfl ?_
    refine s_iconst (v := 5) kx_152_5 (by decide) ?_
    refine s_callV2 (k := 0) (s1 := 2) (s2 := 0) (as := [(0, 5)]) (rest := []) kx_152_6 kp_152_81 (Or.inl rfl) rfl (tk_0 hT) ki_165 kcl_165 rfl rfl (by decide) (m_165 (d := d) (kind := 5) hT hI) (kW (fun v3 M4 hI4 fr4 v3p => ?_))
    have hFm4 := hFm.call fr4 rfl
    refine s_pop kx_152_9 rfl ?_
    refine s_iconst (v := 0) kx_152_10 (by decide) ?_
    exact s_iret kx_152_11 (Or.inr ⟨kq_152, by omega⟩) ⟨_, _, rfl, rfl, hI4, hFm4, (by omega)⟩
theorem kx_153_0 : x_code k_P 153 0 = some (.aload_n 0, 1) := by decide +kernel
theorem kx_153_1 : x_code k_P 153 1 = some (.getfield 26, 3) := by decide +kernel
theorem kp_153_26 : x_pool k_P 153 26 = (1, 11, 2) := by decide +kernel
theorem kx_153_4 : x_code k_P 153 4 = some (.iload_n 1, 1) := by decide +kernel
theorem kx_153_5 : x_code k_P 153 5 = some (.iload_n 2, 1) := by decide +kernel
theorem kx_153_6 : x_code k_P 153 6 = some (.invokevirtual 259, 3) := by decide +kernel
theorem kp_153_259 : x_pool k_P 153 259 = (2, 67, 2) := by decide +kernel
theorem ki_67 : x_mci k_P 67 = 5 := by decide +kernel
theorem kcl_67 : x_maxL k_P 67 ≤ 60 ∧ 3 ≤ x_maxL k_P 67 := by decide +kernel
theorem kx_153_9 : x_code k_P 153 9 = some (.ireturn, 1) := by decide +kernel
theorem kq_153 : x_retk k_P 153 = 1 := by decide +kernel
theorem m_153 {xs : Nat → Int} {Ln d : Nat} {T : List cK} {M : cM} (hT : TT T) (hI : Rng M) {k what : Int} : cC k_P xs Ln (d + 2) 153 [rf 0, (0, k), (0, what)] (T, M) (qF T M 0 (fun v => True)) := by
  show cP k_P xs Ln (d + 2) 153 0 [(0, rf 0), (1, (0, k)), (2, (0, what))] [] (T, M) _
  refine s_aload_n kx_153_0 rfl ?_
  refine r_getR (k := 0) (f := 2) (k2 := 7) kx_153_1 kp_153_26 (tk_0 hT) kf_11_2 (by decide) (rq_0_2 hI) ?_
  refine s_iload_n kx_153_4 rfl ?_
  refine s_iload_n kx_153_5 rfl ?_
  refine s_callV2 (k := 7) (s1 := 3) (s2 := 0) (as := [(0, what), (0, k)]) (rest := []) kx_153_6 kp_153_259 (Or.inl rfl) rfl (tk_7 hT) ki_67 kcl_67 rfl rfl (by decide) (m_67 (d := d) (k := k) (what := what) hT hI) (kF (fun v1 v1p => ?_))
  exact s_iret kx_153_9 (Or.inl kq_153) ⟨_, rfl, rfl, trivial⟩
theorem kx_167_0 : x_code k_P 167 0 = some (.aload_n 0, 1) := by decide +kernel
theorem kx_167_1 : x_code k_P 167 1 = some (.getfield 26, 3) := by decide +kernel
theorem kp_167_26 : x_pool k_P 167 26 = (1, 11, 2) := by decide +kernel
theorem kx_167_4 : x_code k_P 167 4 = some (.getfield 120, 3) := by decide +kernel
theorem kp_167_120 : x_pool k_P 167 120 = (1, 5, 0) := by decide +kernel
theorem kx_167_7 : x_code k_P 167 7 = some (.iload_n 1, 1) := by decide +kernel
theorem kx_167_8 : x_code k_P 167 8 = some (.invokevirtual 164, 3) := by decide +kernel
theorem kp_167_164 : x_pool k_P 167 164 = (2, 107, 1) := by decide +kernel
theorem kx_167_11 : x_code k_P 167 11 = some (.ifCond .eq 32, 3) := by decide +kernel
theorem kx_167_43 : x_code k_P 167 43 = some (.iconst 0, 1) := by decide +kernel
theorem kx_167_44 : x_code k_P 167 44 = some (.ireturn, 1) := by decide +kernel
theorem kq_167 : x_retk k_P 167 = 2 := by decide +kernel
theorem kx_167_14 : x_code k_P 167 14 = some (.aload_n 0, 1) := by decide +kernel
theorem kx_167_15 : x_code k_P 167 15 = some (.getfield 26, 3) := by decide +kernel
theorem kx_167_18 : x_code k_P 167 18 = some (.getfield 120, 3) := by decide +kernel
theorem kx_167_21 : x_code k_P 167 21 = some (.iload_n 2, 1) := by decide +kernel
theorem kx_167_22 : x_code k_P 167 22 = some (.invokevirtual 153, 3) := by decide +kernel
theorem kp_167_153 : x_pool k_P 167 153 = (2, 106, 1) := by decide +kernel
theorem kx_167_25 : x_code k_P 167 25 = some (.ifCond .eq 18, 3) := by decide +kernel
theorem kx_167_28 : x_code k_P 167 28 = some (.aload_n 0, 1) := by decide +kernel
theorem kx_167_29 : x_code k_P 167 29 = some (.getfield 26, 3) := by decide +kernel
theorem kx_167_32 : x_code k_P 167 32 = some (.iload_n 1, 1) := by decide +kernel
theorem kx_167_33 : x_code k_P 167 33 = some (.invokevirtual 197, 3) := by decide +kernel
theorem kp_167_197 : x_pool k_P 167 197 = (2, 45, 1) := by decide +kernel
theorem kx_167_36 : x_code k_P 167 36 = some (.ifCond .ne 7, 3) := by decide +kernel
theorem kx_167_39 : x_code k_P 167 39 = some (.iconst 1, 1) := by decide +kernel
theorem kx_167_40 : x_code k_P 167 40 = some (.goto 4, 3) := by decide +kernel
theorem m_167 {xs : Nat → Int} {Ln d : Nat} {T : List cK} {M : cM} (hT : TT T) (hI : Rng M) {t : Nat} (ht : t = 8 ∨ t = 25) (h70 : M 7 0 = ((t : Nat) : Int)) {chair room : Int} : cC k_P xs Ln (d + 1) 167 [rf 0, (0, chair), (0, room)] (T, M) (qF T M 0 (fun v => (v = 1 ∧ 0 ≤ chair ∧ chair ≤ 7 ∧ 0 ≤ room ∧ room ≤ 7) ∨ v = 0)) := by
  show cP k_P xs Ln (d + 1) 167 0 [(0, rf 0), (1, (0, chair)), (2, (0, room))] [] (T, M) _
  refine s_aload_n kx_167_0 rfl ?_
  refine r_getR (k := 0) (f := 2) (k2 := 7) kx_167_1 kp_167_26 (tk_0 hT) kf_11_2 (by decide) (rq_0_2 hI) ?_
  refine r_getR (k := 7) (f := 0) (k2 := t) kx_167_4 kp_167_120 (tk_7 hT) kf_5_0 (by decide) h70 ?_
  refine s_iload_n kx_167_7 rfl ?_
  refine s_callV2 (k := t) (s1 := 2) (s2 := 0) (as := [(0, chair)]) (rest := []) kx_167_8 kp_167_164 (Or.inl rfl) rfl (tkt_0 hT ht) ki_107 kcl_107 rfl rfl (by decide) (m_107 (d := d) (person := chair) hT hI ht) (kF (fun v1 v1p => ?_))
  refine s_if_eq (t := 43) kx_167_11 (by decide) (fun hc2 => ?_) (fun hc2 => ?_)
  · replace v1p := v1p.resolve_left (by omega)
    refine s_iconst (v := 0) kx_167_43 (by decide) ?_
    exact s_iret kx_167_44 (Or.inr ⟨kq_167, by omega⟩) ⟨_, rfl, rfl, (by omega)⟩
  · replace v1p := v1p.resolve_right (by omega)
    refine s_aload_n kx_167_14 rfl ?_
    refine r_getR (k := 0) (f := 2) (k2 := 7) kx_167_15 kp_167_26 (tk_0 hT) kf_11_2 (by decide) (rq_0_2 hI) ?_
    refine r_getR (k := 7) (f := 0) (k2 := t) kx_167_18 kp_167_120 (tk_7 hT) kf_5_0 (by decide) h70 ?_
    refine s_iload_n kx_167_21 rfl ?_
    refine s_callV2 (k := t) (s1 := 2) (s2 := 0) (as := [(0, room)]) (rest := []) kx_167_22 kp_167_153 (Or.inl rfl) rfl (tkt_0 hT ht) ki_106 kcl_106 rfl rfl (by decide) (m_106 (d := d) (room := room) hT hI ht) (kF (fun v3 v3p => ?_))
    refine s_if_eq (t := 43) kx_167_25 (by decide) (fun hc4 => ?_) (fun hc4 => ?_)
    · replace v3p := v3p.resolve_left (by omega)
      refine s_iconst (v := 0) kx_167_43 (by decide) ?_
      exact s_iret kx_167_44 (Or.inr ⟨kq_167, by omega⟩) ⟨_, rfl, rfl, (by omega)⟩
    · replace v3p := v3p.resolve_right (by omega)
      refine s_aload_n kx_167_28 rfl ?_
      refine r_getR (k := 0) (f := 2) (k2 := 7) kx_167_29 kp_167_26 (tk_0 hT) kf_11_2 (by decide) (rq_0_2 hI) ?_
      refine s_iload_n kx_167_32 rfl ?_
      refine s_callV2 (k := 7) (s1 := 2) (s2 := 0) (as := [(0, chair)]) (rest := []) kx_167_33 kp_167_197 (Or.inl rfl) rfl (tk_7 hT) ki_45 kcl_45 rfl rfl (by decide) (m_45 (d := d) (chair := chair) hT hI (by omega)) (kF (fun v5 v5p => ?_))
      refine s_if_ne (t := 43) kx_167_36 (by decide) (fun hc6 => ?_) (fun hc6 => ?_)
      · refine s_iconst (v := 0) kx_167_43 (by decide) ?_
        exact s_iret kx_167_44 (Or.inr ⟨kq_167, by omega⟩) ⟨_, rfl, rfl, (by omega)⟩
      · refine s_iconst (v := 1) kx_167_39 (by decide) ?_
        refine s_goto (t := 44) kx_167_40 (by decide) ?_
        exact s_iret kx_167_44 (Or.inr ⟨kq_167, by omega⟩) ⟨_, rfl, rfl, (by omega)⟩
theorem kx_154_0 : x_code k_P 154 0 = some (.aload_n 0, 1) := by decide +kernel
theorem kx_154_1 : x_code k_P 154 1 = some (.getfield 26, 3) := by decide +kernel
theorem kp_154_26 : x_pool k_P 154 26 = (1, 11, 2) := by decide +kernel
theorem kx_154_4 : x_code k_P 154 4 = some (.getfield 120, 3) := by decide +kernel
theorem kp_154_120 : x_pool k_P 154 120 = (1, 5, 0) := by decide +kernel
theorem kx_154_7 : x_code k_P 154 7 = some (.iload_n 1, 1) := by decide +kernel
theorem kx_154_8 : x_code k_P 154 8 = some (.invokevirtual 164, 3) := by decide +kernel
theorem kp_154_164 : x_pool k_P 154 164 = (2, 107, 1) := by decide +kernel
theorem kx_154_11 : x_code k_P 154 11 = some (.ifCond .eq 12, 3) := by decide +kernel
theorem kx_154_23 : x_code k_P 154 23 = some (.iconst (-1), 1) := by decide +kernel
theorem kx_154_24 : x_code k_P 154 24 = some (.ireturn, 1) := by decide +kernel
theorem kq_154 : x_retk k_P 154 = 1 := by decide +kernel
theorem kx_154_14 : x_code k_P 154 14 = some (.aload_n 0, 1) := by decide +kernel
theorem kx_154_15 : x_code k_P 154 15 = some (.iload_n 2, 1) := by decide +kernel
theorem kx_154_16 : x_code k_P 154 16 = some (.iload_n 3, 1) := by decide +kernel
theorem kx_154_17 : x_code k_P 154 17 = some (.invokevirtual 262, 3) := by decide +kernel
theorem kp_154_262 : x_pool k_P 154 262 = (2, 167, 2) := by decide +kernel
theorem ki_167 : x_mci k_P 167 = 11 := by decide +kernel
theorem kcl_167 : x_maxL k_P 167 ≤ 60 ∧ 3 ≤ x_maxL k_P 167 := by decide +kernel
theorem kx_154_20 : x_code k_P 154 20 = some (.ifCond .ne 5, 3) := by decide +kernel
theorem kx_154_25 : x_code k_P 154 25 = some (.aload_n 0, 1) := by decide +kernel
theorem kx_154_26 : x_code k_P 154 26 = some (.getfield 40, 3) := by decide +kernel
theorem kp_154_40 : x_pool k_P 154 40 = (1, 11, 4) := by decide +kernel
theorem kf_11_4 : (x_cls k_P 11)[4]? = some 12 := by decide +kernel
theorem kx_154_29 : x_code k_P 154 29 = some (.aload_n 0, 1) := by decide +kernel
theorem kx_154_30 : x_code k_P 154 30 = some (.getfield 26, 3) := by decide +kernel
theorem kx_154_33 : x_code k_P 154 33 = some (.iload_n 1, 1) := by decide +kernel
theorem kx_154_34 : x_code k_P 154 34 = some (.iload_n 2, 1) := by decide +kernel
theorem kx_154_35 : x_code k_P 154 35 = some (.invokevirtual 265, 3) := by decide +kernel
theorem kp_154_265 : x_pool k_P 154 265 = (2, 33, 3) := by decide +kernel
theorem ki_33 : x_mci k_P 33 = 4 := by decide +kernel
theorem kcl_33 : x_maxL k_P 33 ≤ 60 ∧ 4 ≤ x_maxL k_P 33 := by decide +kernel
theorem kx_154_38 : x_code k_P 154 38 = some (.aload_n 0, 1) := by decide +kernel
theorem kx_154_39 : x_code k_P 154 39 = some (.getfield 40, 3) := by decide +kernel
theorem kx_154_42 : x_code k_P 154 42 = some (.aload_n 0, 1) := by decide +kernel
theorem kx_154_43 : x_code k_P 154 43 = some (.getfield 26, 3) := by decide +kernel
theorem kx_154_46 : x_code k_P 154 46 = some (.getfield 120, 3) := by decide +kernel
theorem kx_154_49 : x_code k_P 154 49 = some (.getfield 123, 3) := by decide +kernel
theorem kp_154_123 : x_pool k_P 154 123 = (1, 9, 0) := by decide +kernel
theorem kx_154_52 : x_code k_P 154 52 = some (.aload_n 0, 1) := by decide +kernel
theorem kx_154_53 : x_code k_P 154 53 = some (.getfield 26, 3) := by decide +kernel
theorem kx_154_56 : x_code k_P 154 56 = some (.iload_n 2, 1) := by decide +kernel
theorem kx_154_57 : x_code k_P 154 57 = some (.invokevirtual 194, 3) := by decide +kernel
theorem kp_154_194 : x_pool k_P 154 194 = (2, 44, 1) := by decide +kernel
theorem kx_154_60 : x_code k_P 154 60 = some (.iload_n 3, 1) := by decide +kernel
theorem kx_154_61 : x_code k_P 154 61 = some (.invokevirtual 269, 3) := by decide +kernel
theorem kp_154_269 : x_pool k_P 154 269 = (2, 36, 3) := by decide +kernel
theorem ki_36 : x_mci k_P 36 = 4 := by decide +kernel
theorem kcl_36 : x_maxL k_P 36 ≤ 60 ∧ 4 ≤ x_maxL k_P 36 := by decide +kernel
theorem kx_154_64 : x_code k_P 154 64 = some (.iload 4, 2) := by decide +kernel
theorem kx_154_66 : x_code k_P 154 66 = some (.iconst (-1), 1) := by decide +kernel
theorem kx_154_67 : x_code k_P 154 67 = some (.if_icmp .ne 13, 3) := by decide +kernel
theorem kx_154_80 : x_code k_P 154 80 = some (.aload_n 0, 1) := by decide +kernel
theorem kx_154_81 : x_code k_P 154 81 = some (.getfield 40, 3) := by decide +kernel
theorem kx_154_84 : x_code k_P 154 84 = some (.iload 4, 2) := by decide +kernel
theorem kx_154_86 : x_code k_P 154 86 = some (.invokevirtual 276, 3) := by decide +kernel
theorem kp_154_276 : x_pool k_P 154 276 = (2, 39, 1) := by decide +kernel
theorem ki_39 : x_mci k_P 39 = 4 := by decide +kernel
theorem kcl_39 : x_maxL k_P 39 ≤ 60 ∧ 2 ≤ x_maxL k_P 39 := by decide +kernel
theorem kx_154_89 : x_code k_P 154 89 = some (.ireturn, 1) := by decide +kernel
theorem kx_154_70 : x_code k_P 154 70 = some (.aload_n 0, 1) := by decide +kernel
theorem kx_154_71 : x_code k_P 154 71 = some (.getfield 40, 3) := by decide +kernel
theorem kx_154_74 : x_code k_P 154 74 = some (.getfield 273, 3) := by decide +kernel
theorem kp_154_273 : x_pool k_P 154 273 = (1, 4, 6) := by decide +kernel
theorem kx_154_77 : x_code k_P 154 77 = some (.goto 12, 3) := by decide +kernel
def fS_154_m : List (Nat × Nat) := [(20, 99999), (23, 99999), (37, 99999), (40, 99999), (43, 99999), (46, 4), (46, 5), (46, 6), (47, 99999), (48, 99999), (49, 99999), (50, 99999)]
theorem m_154 {xs : Nat → Int} {Ln d : Nat} {T : List cK} {M : cM} (hT : TT T) (hI : Rng M) {t : Nat} (ht : t = 8 ∨ t = 25) (h70 : M 7 0 = ((t : Nat) : Int)) (hN : Fm T M) {person chair room k : Int} : cC k_P xs Ln (d + 7) 154 [rf 0, (0, person), (0, chair), (0, room), (0, k)] (T, M) (qW T M fS_154_m 0 (fun v M1 => True)) := by
  show cP k_P xs Ln (d + 7) 154 0 [(0, rf 0), (1, (0, person)), (2, (0, chair)), (3, (0, room)), (4, (0, k))] [] (T, M) _
  have hFm : Fr fS_154_m M M := Fr.refl
  refine s_aload_n kx_154_0 rfl ?_
  refine r_getR (k := 0) (f := 2) (k2 := 7) kx_154_1 kp_154_26 (tk_0 hT) kf_11_2 (by decide) (rq_0_2 hI) ?_
  refine r_getR (k := 7) (f := 0) (k2 := t) kx_154_4 kp_154_120 (tk_7 hT) kf_5_0 (by decide) h70 ?_
  refine s_iload_n kx_154_7 rfl ?_
  refine s_callV2 (k := t) (s1 := 2) (s2 := 0) (as := [(0, person)]) (rest := []) kx_154_8 kp_154_164 (Or.inl rfl) rfl (tkt_0 hT ht) ki_107 kcl_107 rfl rfl (by decide) (m_107 (d := d + 6) (person := person) hT hI ht) (kF (fun v1 v1p => ?_))
  refine s_if_eq (t := 23) kx_154_11 (by decide) (fun hc2 => ?_) (fun hc2 => ?_)
  · replace v1p := v1p.resolve_left (by omega)
    refine s_iconst (v := (-1)) kx_154_23 (by decide) ?_
    exact s_iret kx_154_24 (Or.inl kq_154) ⟨_, _, rfl, rfl, hI, hFm, trivial⟩
  · replace v1p := v1p.resolve_right (by omega)
    refine s_aload_n kx_154_14 rfl ?_
    refine s_iload_n kx_154_15 rfl ?_
    refine s_iload_n kx_154_16 rfl ?_
    refine s_callV2 (k := 0) (s1 := 3) (s2 := 0) (as := [(0, room), (0, chair)]) (rest := []) kx_154_17 kp_154_262 (Or.inl rfl) rfl (tk_0 hT) ki_167 kcl_167 rfl rfl (by decide) (m_167 (d := d + 5) (chair := chair) (room := room) hT hI ht h70) (kF (fun v3 v3p => ?_))
    refine s_if_ne (t := 25) kx_154_20 (by decide) (fun hc4 => ?_) (fun hc4 => ?_)
    · replace v3p := v3p.resolve_right (by omega)
      refine s_aload_n kx_154_25 rfl ?_
      refine r_getR (k := 0) (f := 4) (k2 := 46) kx_154_26 kp_154_40 (tk_0 hT) kf_11_4 (by decide) (rq_0_4 hI) ?_
      refine s_aload_n kx_154_29 rfl ?_
      refine r_getR (k := 0) (f := 2) (k2 := 7) kx_154_30 kp_154_26 (tk_0 hT) kf_11_2 (by decide) (rq_0_2 hI) ?_
      refine s_iload_n kx_154_33 rfl ?_
      refine s_iload_n kx_154_34 rfl ?_
      refine s_callV2 (k := 46) (s1 := 4) (s2 := 0) (as := [(0, chair), (0, person), rf 7]) (rest := []) kx_154_35 kp_154_265 (Or.inl rfl) rfl (tk_46 hT) ki_33 kcl_33 rfl rfl (by decide) (m_33 (d := d) (person := person) (chair := chair) hT hI ht h70 hN (by omega)) (kV (fun M6 hI6 fr6 v5p => ?_))
      have hFm6 := hFm.call fr6 rfl
      refine s_aload_n kx_154_38 rfl ?_
      refine r_getR (k := 0) (f := 4) (k2 := 46) kx_154_39 kp_154_40 (tk_0 hT) kf_11_4 (by decide) (rq_0_4 hI6) ?_
      refine s_aload_n kx_154_42 rfl ?_
      refine r_getR (k := 0) (f := 2) (k2 := 7) kx_154_43 kp_154_26 (tk_0 hT) kf_11_2 (by decide) (rq_0_2 hI6) ?_
      refine r_getR (k := 7) (f := 0) (k2 := t) kx_154_46 kp_154_120 (tk_7 hT) kf_5_0 (by decide) ((fr6 7 0 rfl).trans h70) ?_
      refine r_getI (k := t) (f := 0) kx_154_49 kp_154_123 (tkt_0 hT ht) kf_9_0 (fun _ => rfl) (rgt_0_0 hI6 ht) (fun v7 v7e v7a v7b => ?_)
      have v7z : M t 0 = v7 := ((fr6 t 0 (by rcases ht with rfl | rfl <;> rfl))).symm.trans v7e
      refine s_aload_n kx_154_52 rfl ?_
      refine r_getR (k := 0) (f := 2) (k2 := 7) kx_154_53 kp_154_26 (tk_0 hT) kf_11_2 (by decide) (rq_0_2 hI6) ?_
      refine s_iload_n kx_154_56 rfl ?_
      refine s_callV2 (k := 7) (s1 := 2) (s2 := 2) (as := [(0, chair)]) (rest := [(0, v7), rf 46]) kx_154_57 kp_154_194 (Or.inl rfl) rfl (tk_7 hT) ki_44 kcl_44 rfl rfl (by decide) (m_44 (d := d + 6) (chair := chair) hT hI6 (by omega)) (kF (fun v8 v8p => ?_))
      refine s_iload_n kx_154_60 rfl ?_
      refine s_callV2 (k := 46) (s1 := 4) (s2 := 0) (as := [(0, room), (0, v8), (0, v7)]) (rest := []) kx_154_61 kp_154_269 (Or.inl rfl) rfl (tk_46 hT) ki_36 kcl_36 rfl rfl (by decide) (m_36 (d := d + 4) (rooms := v7) (from_ := v8) (to := room) hT hI6 (by omega) (by omega) (by omega)) (kV (fun M10 hI10 fr10 v9p => ?_))
      have hFm10 := hFm6.call fr10 rfl
      refine s_iload kx_154_64 rfl ?_
      refine s_iconst (v := (-1)) kx_154_66 (by decide) ?_
      refine s_icmp_ne (t := 80) kx_154_67 (by decide) (fun hc11 => ?_) (fun hc11 => ?_)
      · refine s_aload_n kx_154_80 rfl ?_
        refine r_getR (k := 0) (f := 4) (k2 := 46) kx_154_81 kp_154_40 (tk_0 hT) kf_11_4 (by decide) (rq_0_4 hI10) ?_
        refine s_iload kx_154_84 rfl ?_
        refine s_callV2 (k := 46) (s1 := 2) (s2 := 0) (as := [(0, k)]) (rest := []) kx_154_86 kp_154_276 (Or.inl rfl) rfl (tk_46 hT) ki_39 kcl_39 rfl rfl (by decide) (m_39 (d := d + 6) (k := k) hT hI10) (kF (fun v12 v12p => ?_))
        exact s_iret kx_154_89 (Or.inl kq_154) ⟨_, _, rfl, rfl, hI10, hFm10, trivial⟩
      · refine s_aload_n kx_154_70 rfl ?_
        refine r_getR (k := 0) (f := 4) (k2 := 46) kx_154_71 kp_154_40 (tk_0 hT) kf_11_4 (by decide) (rq_0_4 hI10) ?_
        refine r_getU (k := 46) (f := 6) kx_154_74 kp_154_273 (tk_46 hT) kf_4_6 (fun _ => rfl) (fun v13 v13e => ?_)
        refine s_goto (t := 89) kx_154_77 (by decide) ?_
        exact s_iret kx_154_89 (Or.inl kq_154) ⟨_, _, rfl, rfl, hI10, hFm10, trivial⟩
    · replace v3p := v3p.resolve_left (by omega)
      refine s_iconst (v := (-1)) kx_154_23 (by decide) ?_
      exact s_iret kx_154_24 (Or.inl kq_154) ⟨_, _, rfl, rfl, hI, hFm, trivial⟩
theorem kx_155_0 : x_code k_P 155 0 = some (.aload_n 0, 1) := by decide +kernel
theorem kx_155_1 : x_code k_P 155 1 = some (.iload_n 1, 1) := by decide +kernel
theorem kx_155_2 : x_code k_P 155 2 = some (.iload_n 2, 1) := by decide +kernel
theorem kx_155_3 : x_code k_P 155 3 = some (.invokevirtual 262, 3) := by decide +kernel
theorem kp_155_262 : x_pool k_P 155 262 = (2, 167, 2) := by decide +kernel
theorem kx_155_6 : x_code k_P 155 6 = some (.ifCond .ne 5, 3) := by decide +kernel
theorem kx_155_11 : x_code k_P 155 11 = some (.aload_n 0, 1) := by decide +kernel
theorem kx_155_12 : x_code k_P 155 12 = some (.getfield 40, 3) := by decide +kernel
theorem kp_155_40 : x_pool k_P 155 40 = (1, 11, 4) := by decide +kernel
theorem kx_155_15 : x_code k_P 155 15 = some (.aload_n 0, 1) := by decide +kernel
theorem kx_155_16 : x_code k_P 155 16 = some (.getfield 26, 3) := by decide +kernel
theorem kp_155_26 : x_pool k_P 155 26 = (1, 11, 2) := by decide +kernel
theorem kx_155_19 : x_code k_P 155 19 = some (.iload_n 1, 1) := by decide +kernel
theorem kx_155_20 : x_code k_P 155 20 = some (.invokevirtual 279, 3) := by decide +kernel
theorem kp_155_279 : x_pool k_P 155 279 = (2, 34, 2) := by decide +kernel
theorem ki_34 : x_mci k_P 34 = 4 := by decide +kernel
theorem kcl_34 : x_maxL k_P 34 ≤ 60 ∧ 3 ≤ x_maxL k_P 34 := by decide +kernel
theorem kx_155_23 : x_code k_P 155 23 = some (.aload_n 0, 1) := by decide +kernel
theorem kx_155_24 : x_code k_P 155 24 = some (.getfield 40, 3) := by decide +kernel
theorem kx_155_27 : x_code k_P 155 27 = some (.aload_n 0, 1) := by decide +kernel
theorem kx_155_28 : x_code k_P 155 28 = some (.getfield 26, 3) := by decide +kernel
theorem kx_155_31 : x_code k_P 155 31 = some (.getfield 120, 3) := by decide +kernel
theorem kp_155_120 : x_pool k_P 155 120 = (1, 5, 0) := by decide +kernel
theorem kx_155_34 : x_code k_P 155 34 = some (.getfield 123, 3) := by decide +kernel
theorem kp_155_123 : x_pool k_P 155 123 = (1, 9, 0) := by decide +kernel
theorem kx_155_37 : x_code k_P 155 37 = some (.aload_n 0, 1) := by decide +kernel
theorem kx_155_38 : x_code k_P 155 38 = some (.getfield 26, 3) := by decide +kernel
theorem kx_155_41 : x_code k_P 155 41 = some (.iload_n 1, 1) := by decide +kernel
theorem kx_155_42 : x_code k_P 155 42 = some (.invokevirtual 194, 3) := by decide +kernel
theorem kp_155_194 : x_pool k_P 155 194 = (2, 44, 1) := by decide +kernel
theorem kx_155_45 : x_code k_P 155 45 = some (.iload_n 2, 1) := by decide +kernel
theorem kx_155_46 : x_code k_P 155 46 = some (.invokevirtual 269, 3) := by decide +kernel
theorem kp_155_269 : x_pool k_P 155 269 = (2, 36, 3) := by decide +kernel
theorem kx_155_49 : x_code k_P 155 49 = some (.iload_n 3, 1) := by decide +kernel
theorem kx_155_50 : x_code k_P 155 50 = some (.iconst (-1), 1) := by decide +kernel
theorem kx_155_51 : x_code k_P 155 51 = some (.if_icmp .ne 13, 3) := by decide +kernel
theorem kx_155_64 : x_code k_P 155 64 = some (.aload_n 0, 1) := by decide +kernel
theorem kx_155_65 : x_code k_P 155 65 = some (.getfield 40, 3) := by decide +kernel
theorem kx_155_68 : x_code k_P 155 68 = some (.iload_n 3, 1) := by decide +kernel
theorem kx_155_69 : x_code k_P 155 69 = some (.invokevirtual 283, 3) := by decide +kernel
theorem kp_155_283 : x_pool k_P 155 283 = (2, 40, 1) := by decide +kernel
theorem ki_40 : x_mci k_P 40 = 4 := by decide +kernel
theorem kcl_40 : x_maxL k_P 40 ≤ 60 ∧ 2 ≤ x_maxL k_P 40 := by decide +kernel
theorem kx_155_72 : x_code k_P 155 72 = some (.ireturn, 1) := by decide +kernel
theorem kq_155 : x_retk k_P 155 = 1 := by decide +kernel
theorem kx_155_54 : x_code k_P 155 54 = some (.aload_n 0, 1) := by decide +kernel
theorem kx_155_55 : x_code k_P 155 55 = some (.getfield 40, 3) := by decide +kernel
theorem kx_155_58 : x_code k_P 155 58 = some (.getfield 273, 3) := by decide +kernel
theorem kp_155_273 : x_pool k_P 155 273 = (1, 4, 6) := by decide +kernel
theorem kx_155_61 : x_code k_P 155 61 = some (.goto 11, 3) := by decide +kernel
theorem kx_155_9 : x_code k_P 155 9 = some (.iconst (-1), 1) := by decide +kernel
theorem kx_155_10 : x_code k_P 155 10 = some (.ireturn, 1) := by decide +kernel
def fS_155_m : List (Nat × Nat) := [(20, 99999), (23, 99999), (37, 99999), (40, 99999), (43, 99999), (46, 4), (46, 5), (46, 6), (47, 99999), (48, 99999), (49, 99999), (50, 99999)]
theorem m_155 {xs : Nat → Int} {Ln d : Nat} {T : List cK} {M : cM} (hT : TT T) (hI : Rng M) {t : Nat} (ht : t = 8 ∨ t = 25) (h70 : M 7 0 = ((t : Nat) : Int)) (hN : Fm T M) {chair room k : Int} : cC k_P xs Ln (d + 7) 155 [rf 0, (0, chair), (0, room), (0, k)] (T, M) (qW T M fS_155_m 0 (fun v M1 => True)) := by
  show cP k_P xs Ln (d + 7) 155 0 [(0, rf 0), (1, (0, chair)), (2, (0, room)), (3, (0, k))] [] (T, M) _
  have hFm : Fr fS_155_m M M := Fr.refl
  refine s_aload_n kx_155_0 rfl ?_
  refine s_iload_n kx_155_1 rfl ?_
  refine s_iload_n kx_155_2 rfl ?_
  refine s_callV2 (k := 0) (s1 := 3) (s2 := 0) (as := [(0, room), (0, chair)]) (rest := []) kx_155_3 kp_155_262 (Or.inl rfl) rfl (tk_0 hT) ki_167 kcl_167 rfl rfl (by decide) (m_167 (d := d + 5) (chair := chair) (room := room) hT hI ht h70) (kF (fun v1 v1p => ?_))
  refine s_if_ne (t := 11) kx_155_6 (by decide) (fun hc2 => ?_) (fun hc2 => ?_)
  · replace v1p := v1p.resolve_right (by omega)
    refine s_aload_n kx_155_11 rfl ?_
    refine r_getR (k := 0) (f := 4) (k2 := 46) kx_155_12 kp_155_40 (tk_0 hT) kf_11_4 (by decide) (rq_0_4 hI) ?_
    refine s_aload_n kx_155_15 rfl ?_
    refine r_getR (k := 0) (f := 2) (k2 := 7) kx_155_16 kp_155_26 (tk_0 hT) kf_11_2 (by decide) (rq_0_2 hI) ?_
    refine s_iload_n kx_155_19 rfl ?_
    refine s_callV2 (k := 46) (s1 := 3) (s2 := 0) (as := [(0, chair), rf 7]) (rest := []) kx_155_20 kp_155_279 (Or.inl rfl) rfl (tk_46 hT) ki_34 kcl_34 rfl rfl (by decide) (m_34 (d := d) (chair := chair) hT hI ht h70 hN) (kV (fun M4 hI4 fr4 v3p => ?_))
    have hFm4 := hFm.call fr4 rfl
    refine s_aload_n kx_155_23 rfl ?_
    refine r_getR (k := 0) (f := 4) (k2 := 46) kx_155_24 kp_155_40 (tk_0 hT) kf_11_4 (by decide) (rq_0_4 hI4) ?_
    refine s_aload_n kx_155_27 rfl ?_
    refine r_getR (k := 0) (f := 2) (k2 := 7) kx_155_28 kp_155_26 (tk_0 hT) kf_11_2 (by decide) (rq_0_2 hI4) ?_
    refine r_getR (k := 7) (f := 0) (k2 := t) kx_155_31 kp_155_120 (tk_7 hT) kf_5_0 (by decide) ((fr4 7 0 rfl).trans h70) ?_
    refine r_getI (k := t) (f := 0) kx_155_34 kp_155_123 (tkt_0 hT ht) kf_9_0 (fun _ => rfl) (rgt_0_0 hI4 ht) (fun v5 v5e v5a v5b => ?_)
    have v5z : M t 0 = v5 := ((fr4 t 0 (by rcases ht with rfl | rfl <;> rfl))).symm.trans v5e
    refine s_aload_n kx_155_37 rfl ?_
    refine r_getR (k := 0) (f := 2) (k2 := 7) kx_155_38 kp_155_26 (tk_0 hT) kf_11_2 (by decide) (rq_0_2 hI4) ?_
    refine s_iload_n kx_155_41 rfl ?_
    refine s_callV2 (k := 7) (s1 := 2) (s2 := 2) (as := [(0, chair)]) (rest := [(0, v5), rf 46]) kx_155_42 kp_155_194 (Or.inl rfl) rfl (tk_7 hT) ki_44 kcl_44 rfl rfl (by decide) (m_44 (d := d + 6) (chair := chair) hT hI4 (by omega)) (kF (fun v6 v6p => ?_))
    refine s_iload_n kx_155_45 rfl ?_
    refine s_callV2 (k := 46) (s1 := 4) (s2 := 0) (as := [(0, room), (0, v6), (0, v5)]) (rest := []) kx_155_46 kp_155_269 (Or.inl rfl) rfl (tk_46 hT) ki_36 kcl_36 rfl rfl (by decide) (m_36 (d := d + 4) (rooms := v5) (from_ := v6) (to := room) hT hI4 (by omega) (by omega) (by omega)) (kV (fun M8 hI8 fr8 v7p => ?_))
    have hFm8 := hFm4.call fr8 rfl
    refine s_iload_n kx_155_49 rfl ?_
    refine s_iconst (v := (-1)) kx_155_50 (by decide) ?_
    refine s_icmp_ne (t := 64) kx_155_51 (by decide) (fun hc9 => ?_) (fun hc9 => ?_)
    · refine s_aload_n kx_155_64 rfl ?_
      refine r_getR (k := 0) (f := 4) (k2 := 46) kx_155_65 kp_155_40 (tk_0 hT) kf_11_4 (by decide) (rq_0_4 hI8) ?_
      refine s_iload_n kx_155_68 rfl ?_
      refine s_callV2 (k := 46) (s1 := 2) (s2 := 0) (as := [(0, k)]) (rest := []) kx_155_69 kp_155_283 (Or.inl rfl) rfl (tk_46 hT) ki_40 kcl_40 rfl rfl (by decide) (m_40 (d := d + 6) (k := k) hT hI8) (kF (fun v10 v10p => ?_))
      exact s_iret kx_155_72 (Or.inl kq_155) ⟨_, _, rfl, rfl, hI8, hFm8, trivial⟩
    · refine s_aload_n kx_155_54 rfl ?_
      refine r_getR (k := 0) (f := 4) (k2 := 46) kx_155_55 kp_155_40 (tk_0 hT) kf_11_4 (by decide) (rq_0_4 hI8) ?_
      refine r_getU (k := 46) (f := 6) kx_155_58 kp_155_273 (tk_46 hT) kf_4_6 (fun _ => rfl) (fun v11 v11e => ?_)
      refine s_goto (t := 72) kx_155_61 (by decide) ?_
      exact s_iret kx_155_72 (Or.inl kq_155) ⟨_, _, rfl, rfl, hI8, hFm8, trivial⟩
  · replace v1p := v1p.resolve_left (by omega)
    refine s_iconst (v := (-1)) kx_155_9 (by decide) ?_
    exact s_iret kx_155_10 (Or.inl kq_155) ⟨_, _, rfl, rfl, hI, hFm, trivial⟩
theorem kx_156_0 : x_code k_P 156 0 = some (.aload_n 0, 1) := by decide +kernel
theorem kx_156_1 : x_code k_P 156 1 = some (.getfield 47, 3) := by decide +kernel
theorem kp_156_47 : x_pool k_P 156 47 = (1, 11, 5) := by decide +kernel
theorem kf_11_5 : (x_cls k_P 11)[5]? = some 12 := by decide +kernel
theorem kx_156_4 : x_code k_P 156 4 = some (.aload_n 0, 1) := by decide +kernel
theorem kx_156_5 : x_code k_P 156 5 = some (.getfield 26, 3) := by decide +kernel
theorem kp_156_26 : x_pool k_P 156 26 = (1, 11, 2) := by decide +kernel
theorem kx_156_8 : x_code k_P 156 8 = some (.aload_n 0, 1) := by decide +kernel
theorem kx_156_9 : x_code k_P 156 9 = some (.getfield 10, 3) := by decide +kernel
theorem kp_156_10 : x_pool k_P 156 10 = (1, 11, 0) := by decide +kernel
theorem kx_156_12 : x_code k_P 156 12 = some (.iload_n 1, 1) := by decide +kernel
theorem kx_156_13 : x_code k_P 156 13 = some (.invokevirtual 286, 3) := by decide +kernel
theorem kp_156_286 : x_pool k_P 156 286 = (2, 2, 3) := by decide +kernel
theorem ki_2 : x_mci k_P 2 = 0 := by decide +kernel
theorem kcl_2 : x_maxL k_P 2 ≤ 60 ∧ 4 ≤ x_maxL k_P 2 := by decide +kernel
theorem kx_156_16 : x_code k_P 156 16 = some (.istore_n 2, 1) := by decide +kernel
theorem km_156_2 : 2 < x_maxL k_P 156 := by decide +kernel
theorem kx_156_17 : x_code k_P 156 17 = some (.iload_n 2, 1) := by decide +kernel
theorem kx_156_18 : x_code k_P 156 18 = some (.ifCond .eq 22, 3) := by decide +kernel
theorem kx_156_40 : x_code k_P 156 40 = some (.aload_n 0, 1) := by decide +kernel
theorem kx_156_41 : x_code k_P 156 41 = some (.iconst 5, 1) := by decide +kernel
theorem kx_156_42 : x_code k_P 156 42 = some (.invokevirtual 81, 3) := by decide +kernel
theorem kp_156_81 : x_pool k_P 156 81 = (2, 165, 1) := by decide +kernel
theorem kx_156_45 : x_code k_P 156 45 = some (.istore_n 3, 1) := by decide +kernel
theorem km_156_3 : 3 < x_maxL k_P 156 := by decide +kernel
theorem kx_156_46 : x_code k_P 156 46 = some (.aload_n 0, 1) := by decide +kernel
theorem kx_156_47 : x_code k_P 156 47 = some (.getfield 10, 3) := by decide +kernel
theorem kx_156_50 : x_code k_P 156 50 = some (.iconst 0, 1) := by decide +kernel
theorem kx_156_51 : x_code k_P 156 51 = some (.putfield 78, 3) := by decide +kernel
theorem kp_156_78 : x_pool k_P 156 78 = (1, 8, 1) := by decide +kernel
theorem kx_156_54 : x_code k_P 156 54 = some (.iload_n 3, 1) := by decide +kernel
theorem kx_156_55 : x_code k_P 156 55 = some (.ireturn, 1) := by decide +kernel
theorem kq_156 : x_retk k_P 156 = 1 := by decide +kernel
theorem kx_156_21 : x_code k_P 156 21 = some (.aload_n 0, 1) := by decide +kernel
theorem kx_156_22 : x_code k_P 156 22 = some (.getfield 47, 3) := by decide +kernel
theorem kx_156_25 : x_code k_P 156 25 = some (.aload_n 0, 1) := by decide +kernel
theorem kx_156_26 : x_code k_P 156 26 = some (.getfield 26, 3) := by decide +kernel
theorem kx_156_29 : x_code k_P 156 29 = some (.aload_n 0, 1) := by decide +kernel
theorem kx_156_30 : x_code k_P 156 30 = some (.getfield 10, 3) := by decide +kernel
theorem kx_156_33 : x_code k_P 156 33 = some (.iload_n 1, 1) := by decide +kernel
theorem kx_156_34 : x_code k_P 156 34 = some (.invokevirtual 290, 3) := by decide +kernel
theorem kp_156_290 : x_pool k_P 156 290 = (2, 3, 3) := by decide +kernel
theorem ki_3 : x_mci k_P 3 = 0 := by decide +kernel
theorem kcl_3 : x_maxL k_P 3 ≤ 60 ∧ 4 ≤ x_maxL k_P 3 := by decide +kernel
theorem kx_156_37 : x_code k_P 156 37 = some (.goto 8, 3) := by decide +kernel
def fS_156_m : List (Nat × Nat) := [(1, 1), (20, 99999), (23, 99999), (37, 99999), (40, 99999), (43, 99999), (51, 2), (52, 99999), (53, 99999), (61, 99999)]
theorem m_156 {xs : Nat → Int} {Ln d : Nat} {T : List cK} {M : cM} (hT : TT T) (hI : Rng M) {t : Nat} (ht : t = 8 ∨ t = 25) (h70 : M 7 0 = ((t : Nat) : Int)) (hN : Fm T M) {person : Int} : cC k_P xs Ln (d + 7) 156 [rf 0, (0, person)] (T, M) (qW T M fS_156_m 0 (fun v M1 => M1 1 1 = 0)) := by
  show cP k_P xs Ln (d + 7) 156 0 [(0, rf 0), (1, (0, person))] [] (T, M) _
  have hFm : Fr fS_156_m M M := Fr.refl
  refine s_aload_n kx_156_0 rfl ?_
  refine r_getR (k := 0) (f := 5) (k2 := 51) kx_156_1 kp_156_47 (tk_0 hT) kf_11_5 (by decide) (rq_0_5 hI) ?_
  refine s_aload_n kx_156_4 rfl ?_
  refine r_getR (k := 0) (f := 2) (k2 := 7) kx_156_5 kp_156_26 (tk_0 hT) kf_11_2 (by decide) (rq_0_2 hI) ?_
  refine s_aload_n kx_156_8 rfl ?_
  refine r_getR (k := 0) (f := 0) (k2 := 1) kx_156_9 kp_156_10 (tk_0 hT) kf_11_0 (by decide) (rq_0_0 hI) ?_
  refine s_iload_n kx_156_12 rfl ?_
  refine s_callV2 (k := 51) (s1 := 4) (s2 := 0) (as := [(0, person), rf 1, rf 7]) (rest := []) kx_156_13 kp_156_286 (Or.inl rfl) rfl (tk_51 hT) ki_2 kcl_2 rfl rfl (by decide) (m_2 (d := d + 4) (person := person) hT hI ht h70) (kF (fun v1 v1p => ?_))
  refine s_istore_n kx_156_16 km_156_2 rfl ?_
  refine s_iload_n kx_156_17 rfl ?_
  refine s_if_eq (t := 40) kx_156_18 (by decide) (fun hc2 => ?_) (fun hc2 => ?_)
  · replace v1p := v1p.resolve_left (by omega)
    refine s_aload_n kx_156_40 rfl ?_
    refine s_iconst (v := 5) kx_156_41 (by decide) ?_
    refine s_callV2 (k := 0) (s1 := 2) (s2 := 0) (as := [(0, 5)]) (rest := []) kx_156_42 kp_156_81 (Or.inl rfl) rfl (tk_0 hT) ki_165 kcl_165 rfl rfl (by decide) (m_165 (d := d + 6) (kind := 5) hT hI) (kW (fun v3 M4 hI4 fr4 v3p => ?_))
    have hFm4 := hFm.call fr4 rfl
    refine s_istore_n kx_156_45 km_156_3 rfl ?_
    refine s_aload_n kx_156_46 rfl ?_
    refine r_getR (k := 0) (f := 0) (k2 := 1) kx_156_47 kp_156_10 (tk_0 hT) kf_11_0 (by decide) (rq_0_0 hI4) ?_
    refine s_iconst (v := 0) kx_156_50 (by decide) ?_
    refine r_put (k := 1) (f := 1) kx_156_51 kp_156_78 (tk_1 hT) kf_8_1 rfl (by decide) (by decide) hI4 (ru_1_1 (by omega) (by omega)) (fun M5 hI5 u5 => ?_)
    have hFm5 := hFm4.up u5 rfl
    refine s_iload_n kx_156_54 rfl ?_
    have hk6 : M5 1 1 = 0 := u5.1
    exact s_iret kx_156_55 (Or.inl kq_156) ⟨_, _, rfl, rfl, hI5, hFm5, (by omega)⟩
  · replace v1p := v1p.resolve_right (by omega)
    refine s_aload_n kx_156_21 rfl ?_
    refine r_getR (k := 0) (f := 5) (k2 := 51) kx_156_22 kp_156_47 (tk_0 hT) kf_11_5 (by decide) (rq_0_5 hI) ?_
    refine s_aload_n kx_156_25 rfl ?_
    refine r_getR (k := 0) (f := 2) (k2 := 7) kx_156_26 kp_156_26 (tk_0 hT) kf_11_2 (by decide) (rq_0_2 hI) ?_
    refine s_aload_n kx_156_29 rfl ?_
    refine r_getR (k := 0) (f := 0) (k2 := 1) kx_156_30 kp_156_10 (tk_0 hT) kf_11_0 (by decide) (rq_0_0 hI) ?_
    refine s_iload_n kx_156_33 rfl ?_
    refine s_callV2 (k := 51) (s1 := 4) (s2 := 0) (as := [(0, person), rf 1, rf 7]) (rest := []) kx_156_34 kp_156_290 (Or.inl rfl) rfl (tk_51 hT) ki_3 kcl_3 rfl rfl (by decide) (m_3 (d := d) (person := person) hT hI ht h70 hN (by omega) (by omega) (by omega) v1p.2.2.2.2.2.2) (kW (fun v7 M8 hI8 fr8 v7p => ?_))
    have hFm8 := hFm.call fr8 rfl
    refine s_goto (t := 45) kx_156_37 (by decide) ?_
    refine s_istore_n kx_156_45 km_156_3 rfl ?_
    refine s_aload_n kx_156_46 rfl ?_
    refine r_getR (k := 0) (f := 0) (k2 := 1) kx_156_47 kp_156_10 (tk_0 hT) kf_11_0 (by decide) (rq_0_0 hI8) ?_
    refine s_iconst (v := 0) kx_156_50 (by decide) ?_
    refine r_put (k := 1) (f := 1) kx_156_51 kp_156_78 (tk_1 hT) kf_8_1 rfl (by decide) (by decide) hI8 (ru_1_1 (by omega) (by omega)) (fun M9 hI9 u9 => ?_)
    have hFm9 := hFm8.up u9 rfl
    refine s_iload_n kx_156_54 rfl ?_
    have hk10 : M9 1 1 = 0 := u9.1
    exact s_iret kx_156_55 (Or.inl kq_156) ⟨_, _, rfl, rfl, hI9, hFm9, (by omega)⟩
theorem kx_157_0 : x_code k_P 157 0 = some (.iload_n 1, 1) := by decide +kernel
theorem kx_157_1 : x_code k_P 157 1 = some (.ifCond .lt 26, 3) := by decide +kernel
theorem kx_157_27 : x_code k_P 157 27 = some (.iconst (-1), 1) := by decide +kernel
theorem kx_157_28 : x_code k_P 157 28 = some (.ireturn, 1) := by decide +kernel
theorem kq_157 : x_retk k_P 157 = 1 := by decide +kernel
theorem kx_157_4 : x_code k_P 157 4 = some (.iload_n 1, 1) := by decide +kernel
theorem kx_157_5 : x_code k_P 157 5 = some (.aload_n 0, 1) := by decide +kernel
theorem kx_157_6 : x_code k_P 157 6 = some (.getfield 47, 3) := by decide +kernel
theorem kp_157_47 : x_pool k_P 157 47 = (1, 11, 5) := by decide +kernel
theorem kx_157_9 : x_code k_P 157 9 = some (.getfield 113, 3) := by decide +kernel
theorem kp_157_113 : x_pool k_P 157 113 = (1, 0, 2) := by decide +kernel
theorem kx_157_12 : x_code k_P 157 12 = some (.if_icmp .ge 15, 3) := by decide +kernel
theorem kx_157_15 : x_code k_P 157 15 = some (.aload_n 0, 1) := by decide +kernel
theorem kx_157_16 : x_code k_P 157 16 = some (.getfield 47, 3) := by decide +kernel
theorem kx_157_19 : x_code k_P 157 19 = some (.getfield 294, 3) := by decide +kernel
theorem kp_157_294 : x_pool k_P 157 294 = (1, 0, 1) := by decide +kernel
theorem kx_157_22 : x_code k_P 157 22 = some (.iload_n 1, 1) := by decide +kernel
theorem kx_157_23 : x_code k_P 157 23 = some (.iaload, 1) := by decide +kernel
theorem kx_157_24 : x_code k_P 157 24 = some (.goto 4, 3) := by decide +kernel
theorem m_157 {xs : Nat → Int} {Ln d : Nat} {T : List cK} {M : cM} (hT : TT T) (hI : Rng M) {k : Int} : cC k_P xs Ln (d + 0) 157 [rf 0, (0, k)] (T, M) (qF T M 0 (fun v => True)) := by
  show cP k_P xs Ln (d + 0) 157 0 [(0, rf 0), (1, (0, k))] [] (T, M) _
  refine s_iload_n kx_157_0 rfl ?_
  refine s_if_lt (t := 27) kx_157_1 (by decide) (fun hc1 => ?_) (fun hc1 => ?_)
  · refine s_iconst (v := (-1)) kx_157_27 (by decide) ?_
    exact s_iret kx_157_28 (Or.inl kq_157) ⟨_, rfl, rfl, trivial⟩
  · refine s_iload_n kx_157_4 rfl ?_
    refine s_aload_n kx_157_5 rfl ?_
    refine r_getR (k := 0) (f := 5) (k2 := 51) kx_157_6 kp_157_47 (tk_0 hT) kf_11_5 (by decide) (rq_0_5 hI) ?_
    refine r_getI (k := 51) (f := 2) kx_157_9 kp_157_113 (tk_51 hT) kf_0_2 (fun _ => rfl) (rg_51_2 hI) (fun v2 v2e v2a v2b => ?_)
    refine s_icmp_ge (t := 27) kx_157_12 (by decide) (fun hc3 => ?_) (fun hc3 => ?_)
    · refine s_iconst (v := (-1)) kx_157_27 (by decide) ?_
      exact s_iret kx_157_28 (Or.inl kq_157) ⟨_, rfl, rfl, trivial⟩
    · refine s_aload_n kx_157_15 rfl ?_
      refine r_getR (k := 0) (f := 5) (k2 := 51) kx_157_16 kp_157_47 (tk_0 hT) kf_11_5 (by decide) (rq_0_5 hI) ?_
      refine r_getR (k := 51) (f := 1) (k2 := 53) kx_157_19 kp_157_294 (tk_51 hT) kf_0_1 (by decide) (rq_51_1 hI) ?_
      refine s_iload_n kx_157_22 rfl ?_
      refine r_aldU (k := 53) kx_157_23 (tk_53 hT) ⟨by omega, by omega⟩ (fun v4 v4e => ?_)
      refine s_goto (t := 28) kx_157_24 (by decide) ?_
      exact s_iret kx_157_28 (Or.inl kq_157) ⟨_, rfl, rfl, trivial⟩
theorem kx_158_0 : x_code k_P 158 0 = some (.aload_n 0, 1) := by decide +kernel
theorem kx_158_1 : x_code k_P 158 1 = some (.getfield 26, 3) := by decide +kernel
theorem kp_158_26 : x_pool k_P 158 26 = (1, 11, 2) := by decide +kernel
theorem kx_158_4 : x_code k_P 158 4 = some (.getfield 120, 3) := by decide +kernel
theorem kp_158_120 : x_pool k_P 158 120 = (1, 5, 0) := by decide +kernel
theorem kx_158_7 : x_code k_P 158 7 = some (.iload_n 1, 1) := by decide +kernel
theorem kx_158_8 : x_code k_P 158 8 = some (.invokevirtual 153, 3) := by decide +kernel
theorem kp_158_153 : x_pool k_P 158 153 = (2, 106, 1) := by decide +kernel
theorem kx_158_11 : x_code k_P 158 11 = some (.ifCond .eq 23, 3) := by decide +kernel
theorem kx_158_34 : x_code k_P 158 34 = some (.iconst (-1), 1) := by decide +kernel
theorem kx_158_35 : x_code k_P 158 35 = some (.ireturn, 1) := by decide +kernel
theorem kq_158 : x_retk k_P 158 = 1 := by decide +kernel
theorem kx_158_14 : x_code k_P 158 14 = some (.iload_n 2, 1) := by decide +kernel
theorem kx_158_15 : x_code k_P 158 15 = some (.ifCond .lt 19, 3) := by decide +kernel
theorem kx_158_18 : x_code k_P 158 18 = some (.iload_n 2, 1) := by decide +kernel
theorem kx_158_19 : x_code k_P 158 19 = some (.iconst 1, 1) := by decide +kernel
theorem kx_158_20 : x_code k_P 158 20 = some (.aload_n 0, 1) := by decide +kernel
theorem kx_158_21 : x_code k_P 158 21 = some (.getfield 26, 3) := by decide +kernel
theorem kx_158_24 : x_code k_P 158 24 = some (.getfield 120, 3) := by decide +kernel
theorem kx_158_27 : x_code k_P 158 27 = some (.getfield 128, 3) := by decide +kernel
theorem kp_158_128 : x_pool k_P 158 128 = (1, 9, 1) := by decide +kernel
theorem kx_158_30 : x_code k_P 158 30 = some (.ishl, 1) := by decide +kernel
theorem kx_158_31 : x_code k_P 158 31 = some (.if_icmp .lt 5, 3) := by decide +kernel
theorem kx_158_36 : x_code k_P 158 36 = some (.aload_n 0, 1) := by decide +kernel
theorem kx_158_37 : x_code k_P 158 37 = some (.getfield 54, 3) := by decide +kernel
theorem kp_158_54 : x_pool k_P 158 54 = (1, 11, 6) := by decide +kernel
theorem kf_11_6 : (x_cls k_P 11)[6]? = some 12 := by decide +kernel
theorem kx_158_40 : x_code k_P 158 40 = some (.aload_n 0, 1) := by decide +kernel
theorem kx_158_41 : x_code k_P 158 41 = some (.getfield 26, 3) := by decide +kernel
theorem kx_158_44 : x_code k_P 158 44 = some (.iload_n 1, 1) := by decide +kernel
theorem kx_158_45 : x_code k_P 158 45 = some (.iload_n 2, 1) := by decide +kernel
theorem kx_158_46 : x_code k_P 158 46 = some (.invokevirtual 297, 3) := by decide +kernel
theorem kp_158_297 : x_pool k_P 158 297 = (2, 79, 3) := by decide +kernel
theorem ki_79 : x_mci k_P 79 = 6 := by decide +kernel
theorem kcl_79 : x_maxL k_P 79 ≤ 60 ∧ 4 ≤ x_maxL k_P 79 := by decide +kernel
theorem kx_158_49 : x_code k_P 158 49 = some (.ireturn, 1) := by decide +kernel
theorem m_158 {xs : Nat → Int} {Ln d : Nat} {T : List cK} {M : cM} (hT : TT T) (hI : Rng M) {t : Nat} (ht : t = 8 ∨ t = 25) (h70 : M 7 0 = ((t : Nat) : Int)) {room people : Int} : cC k_P xs Ln (d + 4) 158 [rf 0, (0, room), (0, people)] (T, M) (qF T M 0 (fun v => True)) := by
  show cP k_P xs Ln (d + 4) 158 0 [(0, rf 0), (1, (0, room)), (2, (0, people))] [] (T, M) _
  refine s_aload_n kx_158_0 rfl ?_
  refine r_getR (k := 0) (f := 2) (k2 := 7) kx_158_1 kp_158_26 (tk_0 hT) kf_11_2 (by decide) (rq_0_2 hI) ?_
  refine r_getR (k := 7) (f := 0) (k2 := t) kx_158_4 kp_158_120 (tk_7 hT) kf_5_0 (by decide) h70 ?_
  refine s_iload_n kx_158_7 rfl ?_
  refine s_callV2 (k := t) (s1 := 2) (s2 := 0) (as := [(0, room)]) (rest := []) kx_158_8 kp_158_153 (Or.inl rfl) rfl (tkt_0 hT ht) ki_106 kcl_106 rfl rfl (by decide) (m_106 (d := d + 3) (room := room) hT hI ht) (kF (fun v1 v1p => ?_))
  refine s_if_eq (t := 34) kx_158_11 (by decide) (fun hc2 => ?_) (fun hc2 => ?_)
  · replace v1p := v1p.resolve_left (by omega)
    refine s_iconst (v := (-1)) kx_158_34 (by decide) ?_
    exact s_iret kx_158_35 (Or.inl kq_158) ⟨_, rfl, rfl, trivial⟩
  · replace v1p := v1p.resolve_right (by omega)
    refine s_iload_n kx_158_14 rfl ?_
    refine s_if_lt (t := 34) kx_158_15 (by decide) (fun hc3 => ?_) (fun hc3 => ?_)
    · refine s_iconst (v := (-1)) kx_158_34 (by decide) ?_
      exact s_iret kx_158_35 (Or.inl kq_158) ⟨_, rfl, rfl, trivial⟩
    · refine s_iload_n kx_158_18 rfl ?_
      refine s_iconst (v := 1) kx_158_19 (by decide) ?_
      refine s_aload_n kx_158_20 rfl ?_
      refine r_getR (k := 0) (f := 2) (k2 := 7) kx_158_21 kp_158_26 (tk_0 hT) kf_11_2 (by decide) (rq_0_2 hI) ?_
      refine r_getR (k := 7) (f := 0) (k2 := t) kx_158_24 kp_158_120 (tk_7 hT) kf_5_0 (by decide) h70 ?_
      refine r_getI (k := t) (f := 1) kx_158_27 kp_158_128 (tkt_0 hT ht) kf_9_1 (fun _ => rfl) (rgt_0_1 hI ht) (fun v4 v4e v4a v4b => ?_)
      refine r_ishlR kx_158_30 (fun v5 v5a v5b => ?_)
      refine s_icmp_lt (t := 36) kx_158_31 (by decide) (fun hc6 => ?_) (fun hc6 => ?_)
      · refine s_aload_n kx_158_36 rfl ?_
        refine r_getR (k := 0) (f := 6) (k2 := 54) kx_158_37 kp_158_54 (tk_0 hT) kf_11_6 (by decide) (rq_0_6 hI) ?_
        refine s_aload_n kx_158_40 rfl ?_
        refine r_getR (k := 0) (f := 2) (k2 := 7) kx_158_41 kp_158_26 (tk_0 hT) kf_11_2 (by decide) (rq_0_2 hI) ?_
        refine s_iload_n kx_158_44 rfl ?_
        refine s_iload_n kx_158_45 rfl ?_
        refine s_callV2 (k := 54) (s1 := 4) (s2 := 0) (as := [(0, people), (0, room), rf 7]) (rest := []) kx_158_46 kp_158_297 (Or.inl rfl) rfl (tk_54 hT) ki_79 kcl_79 rfl rfl (by decide) (m_79 (d := d) (room := room) (people := people) hT hI ht h70 (by omega) (by omega)) (kF (fun v7 v7p => ?_))
        exact s_iret kx_158_49 (Or.inl kq_158) ⟨_, rfl, rfl, trivial⟩
      · refine s_iconst (v := (-1)) kx_158_34 (by decide) ?_
        exact s_iret kx_158_35 (Or.inl kq_158) ⟨_, rfl, rfl, trivial⟩
theorem kx_159_0 : x_code k_P 159 0 = some (.aload_n 0, 1) := by decide +kernel
theorem kx_159_1 : x_code k_P 159 1 = some (.getfield 54, 3) := by decide +kernel
theorem kp_159_54 : x_pool k_P 159 54 = (1, 11, 6) := by decide +kernel
theorem kx_159_4 : x_code k_P 159 4 = some (.aload_n 0, 1) := by decide +kernel
theorem kx_159_5 : x_code k_P 159 5 = some (.getfield 26, 3) := by decide +kernel
theorem kp_159_26 : x_pool k_P 159 26 = (1, 11, 2) := by decide +kernel
theorem kx_159_8 : x_code k_P 159 8 = some (.getfield 120, 3) := by decide +kernel
theorem kp_159_120 : x_pool k_P 159 120 = (1, 5, 0) := by decide +kernel
theorem kx_159_11 : x_code k_P 159 11 = some (.aload_n 0, 1) := by decide +kernel
theorem kx_159_12 : x_code k_P 159 12 = some (.getfield 10, 3) := by decide +kernel
theorem kp_159_10 : x_pool k_P 159 10 = (1, 11, 0) := by decide +kernel
theorem kx_159_15 : x_code k_P 159 15 = some (.invokevirtual 301, 3) := by decide +kernel
theorem kp_159_301 : x_pool k_P 159 301 = (2, 81, 2) := by decide +kernel
theorem ki_81 : x_mci k_P 81 = 6 := by decide +kernel
theorem kcl_81 : x_maxL k_P 81 ≤ 60 ∧ 3 ≤ x_maxL k_P 81 := by decide +kernel
theorem kx_159_18 : x_code k_P 159 18 = some (.istore_n 1, 1) := by decide +kernel
theorem km_159_1 : 1 < x_maxL k_P 159 := by decide +kernel
theorem kx_159_19 : x_code k_P 159 19 = some (.iload_n 1, 1) := by decide +kernel
theorem kx_159_20 : x_code k_P 159 20 = some (.ifCond .eq 17, 3) := by decide +kernel
theorem kx_159_37 : x_code k_P 159 37 = some (.aload_n 0, 1) := by decide +kernel
theorem kx_159_38 : x_code k_P 159 38 = some (.iconst 5, 1) := by decide +kernel
theorem kx_159_39 : x_code k_P 159 39 = some (.invokevirtual 81, 3) := by decide +kernel
theorem kp_159_81 : x_pool k_P 159 81 = (2, 165, 1) := by decide +kernel
theorem kx_159_42 : x_code k_P 159 42 = some (.istore_n 2, 1) := by decide +kernel
theorem km_159_2 : 2 < x_maxL k_P 159 := by decide +kernel
theorem kx_159_43 : x_code k_P 159 43 = some (.aload_n 0, 1) := by decide +kernel
theorem kx_159_44 : x_code k_P 159 44 = some (.getfield 10, 3) := by decide +kernel
theorem kx_159_47 : x_code k_P 159 47 = some (.iconst 0, 1) := by decide +kernel
theorem kx_159_48 : x_code k_P 159 48 = some (.putfield 78, 3) := by decide +kernel
theorem kp_159_78 : x_pool k_P 159 78 = (1, 8, 1) := by decide +kernel
theorem kx_159_51 : x_code k_P 159 51 = some (.iload_n 2, 1) := by decide +kernel
theorem kx_159_52 : x_code k_P 159 52 = some (.ireturn, 1) := by decide +kernel
theorem kq_159 : x_retk k_P 159 = 1 := by decide +kernel
theorem kx_159_23 : x_code k_P 159 23 = some (.aload_n 0, 1) := by decide +kernel
theorem kx_159_24 : x_code k_P 159 24 = some (.getfield 54, 3) := by decide +kernel
theorem kx_159_27 : x_code k_P 159 27 = some (.aload_n 0, 1) := by decide +kernel
theorem kx_159_28 : x_code k_P 159 28 = some (.getfield 26, 3) := by decide +kernel
theorem kx_159_31 : x_code k_P 159 31 = some (.invokevirtual 304, 3) := by decide +kernel
theorem kp_159_304 : x_pool k_P 159 304 = (2, 83, 1) := by decide +kernel
theorem ki_83 : x_mci k_P 83 = 6 := by decide +kernel
theorem kcl_83 : x_maxL k_P 83 ≤ 60 ∧ 2 ≤ x_maxL k_P 83 := by decide +kernel
theorem kx_159_34 : x_code k_P 159 34 = some (.goto 8, 3) := by decide +kernel
def fS_159_m : List (Nat × Nat) := [(1, 1), (54, 6), (54, 7), (55, 99999), (56, 99999), (57, 99999), (58, 99999), (59, 99999), (60, 99999), (61, 99999)]
theorem m_159 {xs : Nat → Int} {Ln d : Nat} {T : List cK} {M : cM} (hT : TT T) (hI : Rng M) {t : Nat} (ht : t = 8 ∨ t = 25) (h70 : M 7 0 = ((t : Nat) : Int)) : cC k_P xs Ln (d + 5) 159 [rf 0] (T, M) (qW T M fS_159_m 0 (fun v M1 => M1 1 1 = 0)) := by
  show cP k_P xs Ln (d + 5) 159 0 [(0, rf 0)] [] (T, M) _
  have hFm : Fr fS_159_m M M := Fr.refl
  refine s_aload_n kx_159_0 rfl ?_
  refine r_getR (k := 0) (f := 6) (k2 := 54) kx_159_1 kp_159_54 (tk_0 hT) kf_11_6 (by decide) (rq_0_6 hI) ?_
  refine s_aload_n kx_159_4 rfl ?_
  refine r_getR (k := 0) (f := 2) (k2 := 7) kx_159_5 kp_159_26 (tk_0 hT) kf_11_2 (by decide) (rq_0_2 hI) ?_
  refine r_getR (k := 7) (f := 0) (k2 := t) kx_159_8 kp_159_120 (tk_7 hT) kf_5_0 (by decide) h70 ?_
  refine s_aload_n kx_159_11 rfl ?_
  refine r_getR (k := 0) (f := 0) (k2 := 1) kx_159_12 kp_159_10 (tk_0 hT) kf_11_0 (by decide) (rq_0_0 hI) ?_
  refine s_callV2 (k := 54) (s1 := 3) (s2 := 0) (as := [rf 1, rf t]) (rest := []) kx_159_15 kp_159_301 (Or.inl rfl) rfl (tk_54 hT) ki_81 kcl_81 rfl rfl (by decide) (m_81 (d := d + 2) hT hI ht) (kW (fun v1 M2 hI2 fr2 v1p => ?_))
  have hFm2 := hFm.call fr2 rfl
  refine s_istore_n kx_159_18 km_159_1 rfl ?_
  refine s_iload_n kx_159_19 rfl ?_
  refine s_if_eq (t := 37) kx_159_20 (by decide) (fun hc3 => ?_) (fun hc3 => ?_)
  · refine s_aload_n kx_159_37 rfl ?_
    refine s_iconst (v := 5) kx_159_38 (by decide) ?_
    refine s_callV2 (k := 0) (s1 := 2) (s2 := 0) (as := [(0, 5)]) (rest := []) kx_159_39 kp_159_81 (Or.inl rfl) rfl (tk_0 hT) ki_165 kcl_165 rfl rfl (by decide) (m_165 (d := d + 4) (kind := 5) hT hI2) (kW (fun v4 M5 hI5 fr5 v4p => ?_))
    have hFm5 := hFm2.call fr5 rfl
    refine s_istore_n kx_159_42 km_159_2 rfl ?_
    refine s_aload_n kx_159_43 rfl ?_
    refine r_getR (k := 0) (f := 0) (k2 := 1) kx_159_44 kp_159_10 (tk_0 hT) kf_11_0 (by decide) (rq_0_0 hI5) ?_
    refine s_iconst (v := 0) kx_159_47 (by decide) ?_
    refine r_put (k := 1) (f := 1) kx_159_48 kp_159_78 (tk_1 hT) kf_8_1 rfl (by decide) (by decide) hI5 (ru_1_1 (by omega) (by omega)) (fun M6 hI6 u6 => ?_)
    have hFm6 := hFm5.up u6 rfl
    refine s_iload_n kx_159_51 rfl ?_
    have hk7 : M6 1 1 = 0 := u6.1
    exact s_iret kx_159_52 (Or.inl kq_159) ⟨_, _, rfl, rfl, hI6, hFm6, (by omega)⟩
  · refine s_aload_n kx_159_23 rfl ?_
    refine r_getR (k := 0) (f := 6) (k2 := 54) kx_159_24 kp_159_54 (tk_0 hT) kf_11_6 (by decide) (rq_0_6 hI2) ?_
    refine s_aload_n kx_159_27 rfl ?_
    refine r_getR (k := 0) (f := 2) (k2 := 7) kx_159_28 kp_159_26 (tk_0 hT) kf_11_2 (by decide) (rq_0_2 hI2) ?_
    refine s_callV2 (k := 54) (s1 := 2) (s2 := 0) (as := [rf 7]) (rest := []) kx_159_31 kp_159_304 (Or.inl rfl) rfl (tk_54 hT) ki_83 kcl_83 rfl rfl (by decide) (m_83 (d := d) hT hI2 ht ((fr2 7 0 rfl).trans h70)) (kW (fun v8 M9 hI9 fr9 v8p => ?_))
    have hFm9 := hFm2.call fr9 rfl
    refine s_goto (t := 42) kx_159_34 (by decide) ?_
    refine s_istore_n kx_159_42 km_159_2 rfl ?_
    refine s_aload_n kx_159_43 rfl ?_
    refine r_getR (k := 0) (f := 0) (k2 := 1) kx_159_44 kp_159_10 (tk_0 hT) kf_11_0 (by decide) (rq_0_0 hI9) ?_
    refine s_iconst (v := 0) kx_159_47 (by decide) ?_
    refine r_put (k := 1) (f := 1) kx_159_48 kp_159_78 (tk_1 hT) kf_8_1 rfl (by decide) (by decide) hI9 (ru_1_1 (by omega) (by omega)) (fun M10 hI10 u10 => ?_)
    have hFm10 := hFm9.up u10 rfl
    refine s_iload_n kx_159_51 rfl ?_
    have hk11 : M10 1 1 = 0 := u10.1
    exact s_iret kx_159_52 (Or.inl kq_159) ⟨_, _, rfl, rfl, hI10, hFm10, (by omega)⟩
theorem kx_160_0 : x_code k_P 160 0 = some (.aload_n 0, 1) := by decide +kernel
theorem kx_160_1 : x_code k_P 160 1 = some (.getfield 54, 3) := by decide +kernel
theorem kp_160_54 : x_pool k_P 160 54 = (1, 11, 6) := by decide +kernel
theorem kx_160_4 : x_code k_P 160 4 = some (.getfield 116, 3) := by decide +kernel
theorem kp_160_116 : x_pool k_P 160 116 = (1, 6, 6) := by decide +kernel
theorem kx_160_7 : x_code k_P 160 7 = some (.ifCond .eq 31, 3) := by decide +kernel
theorem kx_160_38 : x_code k_P 160 38 = some (.iconst (-1), 1) := by decide +kernel
theorem kx_160_39 : x_code k_P 160 39 = some (.ireturn, 1) := by decide +kernel
theorem kq_160 : x_retk k_P 160 = 1 := by decide +kernel
theorem kx_160_10 : x_code k_P 160 10 = some (.aload_n 0, 1) := by decide +kernel
theorem kx_160_11 : x_code k_P 160 11 = some (.getfield 26, 3) := by decide +kernel
theorem kp_160_26 : x_pool k_P 160 26 = (1, 11, 2) := by decide +kernel
theorem kx_160_14 : x_code k_P 160 14 = some (.getfield 120, 3) := by decide +kernel
theorem kp_160_120 : x_pool k_P 160 120 = (1, 5, 0) := by decide +kernel
theorem kx_160_17 : x_code k_P 160 17 = some (.iload_n 1, 1) := by decide +kernel
theorem kx_160_18 : x_code k_P 160 18 = some (.invokevirtual 164, 3) := by decide +kernel
theorem kp_160_164 : x_pool k_P 160 164 = (2, 107, 1) := by decide +kernel
theorem kx_160_21 : x_code k_P 160 21 = some (.ifCond .eq 17, 3) := by decide +kernel
theorem kx_160_24 : x_code k_P 160 24 = some (.aload_n 0, 1) := by decide +kernel
theorem kx_160_25 : x_code k_P 160 25 = some (.getfield 26, 3) := by decide +kernel
theorem kx_160_28 : x_code k_P 160 28 = some (.getfield 120, 3) := by decide +kernel
theorem kx_160_31 : x_code k_P 160 31 = some (.iload_n 2, 1) := by decide +kernel
theorem kx_160_32 : x_code k_P 160 32 = some (.invokevirtual 153, 3) := by decide +kernel
theorem kp_160_153 : x_pool k_P 160 153 = (2, 106, 1) := by decide +kernel
theorem kx_160_35 : x_code k_P 160 35 = some (.ifCond .ne 5, 3) := by decide +kernel
theorem kx_160_40 : x_code k_P 160 40 = some (.aload_n 0, 1) := by decide +kernel
theorem kx_160_41 : x_code k_P 160 41 = some (.getfield 54, 3) := by decide +kernel
theorem kx_160_44 : x_code k_P 160 44 = some (.getfield 308, 3) := by decide +kernel
theorem kp_160_308 : x_pool k_P 160 308 = (1, 6, 5) := by decide +kernel
theorem kx_160_47 : x_code k_P 160 47 = some (.iload_n 1, 1) := by decide +kernel
theorem kx_160_48 : x_code k_P 160 48 = some (.bipush 8, 2) := by decide +kernel
theorem kx_160_50 : x_code k_P 160 50 = some (.imul, 1) := by decide +kernel
theorem kx_160_51 : x_code k_P 160 51 = some (.iload_n 2, 1) := by decide +kernel
theorem kx_160_52 : x_code k_P 160 52 = some (.iadd, 1) := by decide +kernel
theorem kx_160_53 : x_code k_P 160 53 = some (.iaload, 1) := by decide +kernel
theorem kx_160_54 : x_code k_P 160 54 = some (.ireturn, 1) := by decide +kernel
theorem m_160 {xs : Nat → Int} {Ln d : Nat} {T : List cK} {M : cM} (hT : TT T) (hI : Rng M) {t : Nat} (ht : t = 8 ∨ t = 25) (h70 : M 7 0 = ((t : Nat) : Int)) {person room : Int} : cC k_P xs Ln (d + 1) 160 [rf 0, (0, person), (0, room)] (T, M) (qF T M 0 (fun v => True)) := by
  show cP k_P xs Ln (d + 1) 160 0 [(0, rf 0), (1, (0, person)), (2, (0, room))] [] (T, M) _
  refine s_aload_n kx_160_0 rfl ?_
  refine r_getR (k := 0) (f := 6) (k2 := 54) kx_160_1 kp_160_54 (tk_0 hT) kf_11_6 (by decide) (rq_0_6 hI) ?_
  refine r_getI (k := 54) (f := 6) kx_160_4 kp_160_116 (tk_54 hT) kf_6_6 (fun _ => rfl) (rg_54_6 hI) (fun v1 v1e v1a v1b => ?_)
  refine s_if_eq (t := 38) kx_160_7 (by decide) (fun hc2 => ?_) (fun hc2 => ?_)
  · refine s_iconst (v := (-1)) kx_160_38 (by decide) ?_
    exact s_iret kx_160_39 (Or.inl kq_160) ⟨_, rfl, rfl, trivial⟩
  · refine s_aload_n kx_160_10 rfl ?_
    refine r_getR (k := 0) (f := 2) (k2 := 7) kx_160_11 kp_160_26 (tk_0 hT) kf_11_2 (by decide) (rq_0_2 hI) ?_
    refine r_getR (k := 7) (f := 0) (k2 := t) kx_160_14 kp_160_120 (tk_7 hT) kf_5_0 (by decide) h70 ?_
    refine s_iload_n kx_160_17 rfl ?_
    refine s_callV2 (k := t) (s1 := 2) (s2 := 0) (as := [(0, person)]) (rest := []) kx_160_18 kp_160_164 (Or.inl rfl) rfl (tkt_0 hT ht) ki_107 kcl_107 rfl rfl (by decide) (m_107 (d := d) (person := person) hT hI ht) (kF (fun v3 v3p => ?_))
    refine s_if_eq (t := 38) kx_160_21 (by decide) (fun hc4 => ?_) (fun hc4 => ?_)
    · replace v3p := v3p.resolve_left (by omega)
      refine s_iconst (v := (-1)) kx_160_38 (by decide) ?_
      exact s_iret kx_160_39 (Or.inl kq_160) ⟨_, rfl, rfl, trivial⟩
    · replace v3p := v3p.resolve_right (by omega)
      refine s_aload_n kx_160_24 rfl ?_
      refine r_getR (k := 0) (f := 2) (k2 := 7) kx_160_25 kp_160_26 (tk_0 hT) kf_11_2 (by decide) (rq_0_2 hI) ?_
      refine r_getR (k := 7) (f := 0) (k2 := t) kx_160_28 kp_160_120 (tk_7 hT) kf_5_0 (by decide) h70 ?_
      refine s_iload_n kx_160_31 rfl ?_
      refine s_callV2 (k := t) (s1 := 2) (s2 := 0) (as := [(0, room)]) (rest := []) kx_160_32 kp_160_153 (Or.inl rfl) rfl (tkt_0 hT ht) ki_106 kcl_106 rfl rfl (by decide) (m_106 (d := d) (room := room) hT hI ht) (kF (fun v5 v5p => ?_))
      refine s_if_ne (t := 40) kx_160_35 (by decide) (fun hc6 => ?_) (fun hc6 => ?_)
      · replace v5p := v5p.resolve_right (by omega)
        refine s_aload_n kx_160_40 rfl ?_
        refine r_getR (k := 0) (f := 6) (k2 := 54) kx_160_41 kp_160_54 (tk_0 hT) kf_11_6 (by decide) (rq_0_6 hI) ?_
        refine r_getR (k := 54) (f := 5) (k2 := 60) kx_160_44 kp_160_308 (tk_54 hT) kf_6_5 (by decide) (rq_54_5 hI) ?_
        refine s_iload_n kx_160_47 rfl ?_
        refine s_bipush (v := 8) kx_160_48 (by decide) ?_
        refine r_mul kx_160_50 ⟨by omega, by omega⟩ ?_
        refine s_iload_n kx_160_51 rfl ?_
        refine r_add kx_160_52 ⟨by omega, by omega⟩ ?_
        refine r_aldU (k := 60) kx_160_53 (tk_60 hT) ⟨by omega, by omega⟩ (fun v7 v7e => ?_)
        exact s_iret kx_160_54 (Or.inl kq_160) ⟨_, rfl, rfl, trivial⟩
      · replace v5p := v5p.resolve_left (by omega)
        refine s_iconst (v := (-1)) kx_160_38 (by decide) ?_
        exact s_iret kx_160_39 (Or.inl kq_160) ⟨_, rfl, rfl, trivial⟩
theorem kx_161_0 : x_code k_P 161 0 = some (.aload_n 0, 1) := by decide +kernel
theorem kx_161_1 : x_code k_P 161 1 = some (.aload_n 0, 1) := by decide +kernel
theorem kx_161_2 : x_code k_P 161 2 = some (.getfield 26, 3) := by decide +kernel
theorem kp_161_26 : x_pool k_P 161 26 = (1, 11, 2) := by decide +kernel
theorem kx_161_5 : x_code k_P 161 5 = some (.aload_n 0, 1) := by decide +kernel
theorem kx_161_6 : x_code k_P 161 6 = some (.getfield 62, 3) := by decide +kernel
theorem kp_161_62 : x_pool k_P 161 62 = (1, 11, 8) := by decide +kernel
theorem kf_11_8 : (x_cls k_P 11)[8]? = some 12 := by decide +kernel
theorem kx_161_9 : x_code k_P 161 9 = some (.invokevirtual 311, 3) := by decide +kernel
theorem kp_161_311 : x_pool k_P 161 311 = (2, 72, 1) := by decide +kernel
theorem ki_72 : x_mci k_P 72 = 5 := by decide +kernel
theorem kcl_72 : x_maxL k_P 72 ≤ 60 ∧ 2 ≤ x_maxL k_P 72 := by decide +kernel
theorem kx_161_12 : x_code k_P 161 12 = some (.putfield 65, 3) := by decide +kernel
theorem kp_161_65 : x_pool k_P 161 65 = (1, 11, 9) := by decide +kernel
theorem kf_11_9 : (x_cls k_P 11)[9]? = some 0 := by decide +kernel
theorem kx_161_15 : x_code k_P 161 15 = some (.aload_n 0, 1) := by decide +kernel
theorem kx_161_16 : x_code k_P 161 16 = some (.getfield 65, 3) := by decide +kernel
theorem kx_161_19 : x_code k_P 161 19 = some (.ireturn, 1) := by decide +kernel
theorem kq_161 : x_retk k_P 161 = 1 := by decide +kernel
def fS_161_m : List (Nat × Nat) := [(0, 9), (62, 99999)]
theorem m_161 {xs : Nat → Int} {Ln d : Nat} {T : List cK} {M : cM} (hT : TT T) (hI : Rng M) {t : Nat} (ht : t = 8 ∨ t = 25) (h70 : M 7 0 = ((t : Nat) : Int)) : cC k_P xs Ln (d + 3) 161 [rf 0] (T, M) (qW T M fS_161_m 0 (fun v M1 => True)) := by
  show cP k_P xs Ln (d + 3) 161 0 [(0, rf 0)] [] (T, M) _
  have hFm : Fr fS_161_m M M := Fr.refl
  refine s_aload_n kx_161_0 rfl ?_
  refine s_aload_n kx_161_1 rfl ?_
  refine r_getR (k := 0) (f := 2) (k2 := 7) kx_161_2 kp_161_26 (tk_0 hT) kf_11_2 (by decide) (rq_0_2 hI) ?_
  refine s_aload_n kx_161_5 rfl ?_
  refine r_getR (k := 0) (f := 8) (k2 := 62) kx_161_6 kp_161_62 (tk_0 hT) kf_11_8 (by decide) (rq_0_8 hI) ?_
  refine s_callV2 (k := 7) (s1 := 2) (s2 := 1) (as := [rf 62]) (rest := [rf 0]) kx_161_9 kp_161_311 (Or.inl rfl) rfl (tk_7 hT) ki_72 kcl_72 rfl rfl (by decide) (m_72 (d := d) hT hI ht h70) (kW (fun v1 M2 hI2 fr2 v1p => ?_))
  have hFm2 := hFm.call fr2 rfl
  refine r_put (k := 0) (f := 9) kx_161_12 kp_161_65 (tk_0 hT) kf_11_9 rfl (by decide) (by decide) hI2 (ru_0_9 (by omega) (by omega)) (fun M3 hI3 u3 => ?_)
  have hFm3 := hFm2.up u3 rfl
  refine s_aload_n kx_161_15 rfl ?_
  refine r_getK (k := 0) (f := 9) kx_161_16 kp_161_65 (tk_0 hT) kf_11_9 (fun _ => rfl) u3.1 ?_
  exact s_iret kx_161_19 (Or.inl kq_161) ⟨_, _, rfl, rfl, hI3, hFm3, trivial⟩
theorem kx_162_0 : x_code k_P 162 0 = some (.iload_n 1, 1) := by decide +kernel
theorem kx_162_1 : x_code k_P 162 1 = some (.ifCond .lt 20, 3) := by decide +kernel
theorem kx_162_21 : x_code k_P 162 21 = some (.iconst (-1), 1) := by decide +kernel
theorem kx_162_22 : x_code k_P 162 22 = some (.ireturn, 1) := by decide +kernel
theorem kq_162 : x_retk k_P 162 = 1 := by decide +kernel
theorem kx_162_4 : x_code k_P 162 4 = some (.iload_n 1, 1) := by decide +kernel
theorem kx_162_5 : x_code k_P 162 5 = some (.aload_n 0, 1) := by decide +kernel
theorem kx_162_6 : x_code k_P 162 6 = some (.getfield 65, 3) := by decide +kernel
theorem kp_162_65 : x_pool k_P 162 65 = (1, 11, 9) := by decide +kernel
theorem kx_162_9 : x_code k_P 162 9 = some (.if_icmp .ge 12, 3) := by decide +kernel
theorem kx_162_12 : x_code k_P 162 12 = some (.aload_n 0, 1) := by decide +kernel
theorem kx_162_13 : x_code k_P 162 13 = some (.getfield 62, 3) := by decide +kernel
theorem kp_162_62 : x_pool k_P 162 62 = (1, 11, 8) := by decide +kernel
theorem kx_162_16 : x_code k_P 162 16 = some (.iload_n 1, 1) := by decide +kernel
theorem kx_162_17 : x_code k_P 162 17 = some (.iaload, 1) := by decide +kernel
theorem kx_162_18 : x_code k_P 162 18 = some (.goto 4, 3) := by decide +kernel
theorem m_162 {xs : Nat → Int} {Ln d : Nat} {T : List cK} {M : cM} (hT : TT T) (hI : Rng M) {k : Int} : cC k_P xs Ln (d + 0) 162 [rf 0, (0, k)] (T, M) (qF T M 0 (fun v => True)) := by
  show cP k_P xs Ln (d + 0) 162 0 [(0, rf 0), (1, (0, k))] [] (T, M) _
  refine s_iload_n kx_162_0 rfl ?_
  refine s_if_lt (t := 21) kx_162_1 (by decide) (fun hc1 => ?_) (fun hc1 => ?_)
  · refine s_iconst (v := (-1)) kx_162_21 (by decide) ?_
    exact s_iret kx_162_22 (Or.inl kq_162) ⟨_, rfl, rfl, trivial⟩
  · refine s_iload_n kx_162_4 rfl ?_
    refine s_aload_n kx_162_5 rfl ?_
    refine r_getI (k := 0) (f := 9) kx_162_6 kp_162_65 (tk_0 hT) kf_11_9 (fun _ => rfl) (rg_0_9 hI) (fun v2 v2e v2a v2b => ?_)
    refine s_icmp_ge (t := 21) kx_162_9 (by decide) (fun hc3 => ?_) (fun hc3 => ?_)
    · refine s_iconst (v := (-1)) kx_162_21 (by decide) ?_
      exact s_iret kx_162_22 (Or.inl kq_162) ⟨_, rfl, rfl, trivial⟩
    · refine s_aload_n kx_162_12 rfl ?_
      refine r_getR (k := 0) (f := 8) (k2 := 62) kx_162_13 kp_162_62 (tk_0 hT) kf_11_8 (by decide) (rq_0_8 hI) ?_
      refine s_iload_n kx_162_16 rfl ?_
      refine r_aldU (k := 62) kx_162_17 (tk_62 hT) ⟨by omega, by omega⟩ (fun v4 v4e => ?_)
      refine s_goto (t := 22) kx_162_18 (by decide) ?_
      exact s_iret kx_162_22 (Or.inl kq_162) ⟨_, rfl, rfl, trivial⟩
theorem kx_163_0 : x_code k_P 163 0 = some (.aload_n 0, 1) := by decide +kernel
theorem kx_163_1 : x_code k_P 163 1 = some (.getfield 26, 3) := by decide +kernel
theorem kp_163_26 : x_pool k_P 163 26 = (1, 11, 2) := by decide +kernel
theorem kx_163_4 : x_code k_P 163 4 = some (.aload_n 0, 1) := by decide +kernel
theorem kx_163_5 : x_code k_P 163 5 = some (.getfield 10, 3) := by decide +kernel
theorem kp_163_10 : x_pool k_P 163 10 = (1, 11, 0) := by decide +kernel
theorem kx_163_8 : x_code k_P 163 8 = some (.invokevirtual 315, 3) := by decide +kernel
theorem kp_163_315 : x_pool k_P 163 315 = (2, 74, 1) := by decide +kernel
theorem ki_74 : x_mci k_P 74 = 5 := by decide +kernel
theorem kcl_74 : x_maxL k_P 74 ≤ 60 ∧ 2 ≤ x_maxL k_P 74 := by decide +kernel
theorem kx_163_11 : x_code k_P 163 11 = some (.istore_n 1, 1) := by decide +kernel
theorem km_163_1 : 1 < x_maxL k_P 163 := by decide +kernel
theorem kx_163_12 : x_code k_P 163 12 = some (.iload_n 1, 1) := by decide +kernel
theorem kx_163_13 : x_code k_P 163 13 = some (.ifCond .eq 25, 3) := by decide +kernel
theorem kx_163_38 : x_code k_P 163 38 = some (.aload_n 0, 1) := by decide +kernel
theorem kx_163_39 : x_code k_P 163 39 = some (.iconst 5, 1) := by decide +kernel
theorem kx_163_40 : x_code k_P 163 40 = some (.invokevirtual 81, 3) := by decide +kernel
theorem kp_163_81 : x_pool k_P 163 81 = (2, 165, 1) := by decide +kernel
theorem kx_163_43 : x_code k_P 163 43 = some (.pop, 1) := by decide +kernel
theorem kx_163_44 : x_code k_P 163 44 = some (.aload_n 0, 1) := by decide +kernel
theorem kx_163_45 : x_code k_P 163 45 = some (.getfield 10, 3) := by decide +kernel
theorem kx_163_48 : x_code k_P 163 48 = some (.iconst 0, 1) := by decide +kernel
theorem kx_163_49 : x_code k_P 163 49 = some (.putfield 78, 3) := by decide +kernel
theorem kp_163_78 : x_pool k_P 163 78 = (1, 8, 1) := by decide +kernel
theorem kx_163_52 : x_code k_P 163 52 = some (.iload_n 1, 1) := by decide +kernel
theorem kx_163_53 : x_code k_P 163 53 = some (.ireturn, 1) := by decide +kernel
theorem kq_163 : x_retk k_P 163 = 2 := by decide +kernel
theorem kx_163_16 : x_code k_P 163 16 = some (.aload_n 0, 1) := by decide +kernel
theorem kx_163_17 : x_code k_P 163 17 = some (.getfield 26, 3) := by decide +kernel
theorem kx_163_20 : x_code k_P 163 20 = some (.aload_n 0, 1) := by decide +kernel
theorem kx_163_21 : x_code k_P 163 21 = some (.getfield 10, 3) := by decide +kernel
theorem kx_163_24 : x_code k_P 163 24 = some (.invokevirtual 319, 3) := by decide +kernel
theorem kp_163_319 : x_pool k_P 163 319 = (2, 77, 1) := by decide +kernel
theorem ki_77 : x_mci k_P 77 = 5 := by decide +kernel
theorem kcl_77 : x_maxL k_P 77 ≤ 60 ∧ 2 ≤ x_maxL k_P 77 := by decide +kernel
theorem kx_163_27 : x_code k_P 163 27 = some (.aload_n 0, 1) := by decide +kernel
theorem kx_163_28 : x_code k_P 163 28 = some (.getfield 33, 3) := by decide +kernel
theorem kp_163_33 : x_pool k_P 163 33 = (1, 11, 3) := by decide +kernel
theorem kx_163_31 : x_code k_P 163 31 = some (.iconst 0, 1) := by decide +kernel
theorem kx_163_32 : x_code k_P 163 32 = some (.putfield 110, 3) := by decide +kernel
theorem kp_163_110 : x_pool k_P 163 110 = (1, 2, 2) := by decide +kernel
theorem kx_163_35 : x_code k_P 163 35 = some (.goto 9, 3) := by decide +kernel
def fS_163_m : List (Nat × Nat) := [(1, 1), (42, 99999), (44, 2), (61, 99999)]
theorem m_163 {xs : Nat → Int} {Ln d : Nat} {T : List cK} {M : cM} (hT : TT T) (hI : Rng M) {t : Nat} (ht : t = 8 ∨ t = 25) (h70 : M 7 0 = ((t : Nat) : Int)) : cC k_P xs Ln (d + 2) 163 [rf 0] (T, M) (qW T M fS_163_m 0 (fun v M1 => 0 ≤ v ∧ v ≤ 1 ∧ M1 1 1 = 0)) := by
  show cP k_P xs Ln (d + 2) 163 0 [(0, rf 0)] [] (T, M) _
  have hFm : Fr fS_163_m M M := Fr.refl
  refine s_aload_n kx_163_0 rfl ?_
  refine r_getR (k := 0) (f := 2) (k2 := 7) kx_163_1 kp_163_26 (tk_0 hT) kf_11_2 (by decide) (rq_0_2 hI) ?_
  refine s_aload_n kx_163_4 rfl ?_
  refine r_getR (k := 0) (f := 0) (k2 := 1) kx_163_5 kp_163_10 (tk_0 hT) kf_11_0 (by decide) (rq_0_0 hI) ?_
  refine s_callV2 (k := 7) (s1 := 2) (s2 := 0) (as := [rf 1]) (rest := []) kx_163_8 kp_163_315 (Or.inl rfl) rfl (tk_7 hT) ki_74 kcl_74 rfl rfl (by decide) (m_74 (d := d) hT hI ht h70) (kF (fun v1 v1p => ?_))
  refine s_istore_n kx_163_11 km_163_1 rfl ?_
  refine s_iload_n kx_163_12 rfl ?_
  refine s_if_eq (t := 38) kx_163_13 (by decide) (fun hc2 => ?_) (fun hc2 => ?_)
  · replace v1p := v1p.resolve_left (by omega)
    refine s_aload_n kx_163_38 rfl ?_
    refine s_iconst (v := 5) kx_163_39 (by decide) ?_
    refine s_callV2 (k := 0) (s1 := 2) (s2 := 0) (as := [(0, 5)]) (rest := []) kx_163_40 kp_163_81 (Or.inl rfl) rfl (tk_0 hT) ki_165 kcl_165 rfl rfl (by decide) (m_165 (d := d + 1) (kind := 5) hT hI) (kW (fun v3 M4 hI4 fr4 v3p => ?_))
    have hFm4 := hFm.call fr4 rfl
    refine s_pop kx_163_43 rfl ?_
    refine s_aload_n kx_163_44 rfl ?_
    refine r_getR (k := 0) (f := 0) (k2 := 1) kx_163_45 kp_163_10 (tk_0 hT) kf_11_0 (by decide) (rq_0_0 hI4) ?_
    refine s_iconst (v := 0) kx_163_48 (by decide) ?_
    refine r_put (k := 1) (f := 1) kx_163_49 kp_163_78 (tk_1 hT) kf_8_1 rfl (by decide) (by decide) hI4 (ru_1_1 (by omega) (by omega)) (fun M5 hI5 u5 => ?_)
    have hFm5 := hFm4.up u5 rfl
    refine s_iload_n kx_163_52 rfl ?_
    have hk6 : M5 1 1 = 0 := u5.1
    exact s_iret kx_163_53 (Or.inr ⟨kq_163, by omega⟩) ⟨_, _, rfl, rfl, hI5, hFm5, (by omega)⟩
  · replace v1p := v1p.resolve_right (by omega)
    refine s_aload_n kx_163_16 rfl ?_
    refine r_getR (k := 0) (f := 2) (k2 := 7) kx_163_17 kp_163_26 (tk_0 hT) kf_11_2 (by decide) (rq_0_2 hI) ?_
    refine s_aload_n kx_163_20 rfl ?_
    refine r_getR (k := 0) (f := 0) (k2 := 1) kx_163_21 kp_163_10 (tk_0 hT) kf_11_0 (by decide) (rq_0_0 hI) ?_
    refine s_callV2 (k := 7) (s1 := 2) (s2 := 0) (as := [rf 1]) (rest := []) kx_163_24 kp_163_319 (Or.inl rfl) rfl (tk_7 hT) ki_77 kcl_77 rfl rfl (by decide) (m_77 (d := d) hT hI ht h70 v1p.2.2) (kV (fun M8 hI8 fr8 v7p => ?_))
    have hFm8 := hFm.call fr8 rfl
    refine s_aload_n kx_163_27 rfl ?_
    refine r_getR (k := 0) (f := 3) (k2 := 44) kx_163_28 kp_163_33 (tk_0 hT) kf_11_3 (by decide) (rq_0_3 hI8) ?_
    refine s_iconst (v := 0) kx_163_31 (by decide) ?_
    refine r_put (k := 44) (f := 2) kx_163_32 kp_163_110 (tk_44 hT) kf_2_2 rfl (by decide) (by decide) hI8 ru_44_2 (fun M9 hI9 u9 => ?_)
    have hFm9 := hFm8.up u9 rfl
    refine s_goto (t := 44) kx_163_35 (by decide) ?_
    refine s_aload_n kx_163_44 rfl ?_
    refine r_getR (k := 0) (f := 0) (k2 := 1) kx_163_45 kp_163_10 (tk_0 hT) kf_11_0 (by decide) (rq_0_0 hI9) ?_
    refine s_iconst (v := 0) kx_163_48 (by decide) ?_
    refine r_put (k := 1) (f := 1) kx_163_49 kp_163_78 (tk_1 hT) kf_8_1 rfl (by decide) (by decide) hI9 (ru_1_1 (by omega) (by omega)) (fun M10 hI10 u10 => ?_)
    have hFm10 := hFm9.up u10 rfl
    refine s_iload_n kx_163_52 rfl ?_
    have hk11 : M10 1 1 = 0 := u10.1
    exact s_iret kx_163_53 (Or.inr ⟨kq_163, by omega⟩) ⟨_, _, rfl, rfl, hI10, hFm10, (by omega)⟩
theorem kx_164_0 : x_code k_P 164 0 = some (.iload_n 1, 1) := by decide +kernel
theorem kx_164_1 : x_code k_P 164 1 = some (.ifCond .lt 21, 3) := by decide +kernel
theorem kx_164_22 : x_code k_P 164 22 = some (.iconst (-1), 1) := by decide +kernel
theorem kx_164_23 : x_code k_P 164 23 = some (.ireturn, 1) := by decide +kernel
theorem kq_164 : x_retk k_P 164 = 1 := by decide +kernel
theorem kx_164_4 : x_code k_P 164 4 = some (.iload_n 1, 1) := by decide +kernel
theorem kx_164_5 : x_code k_P 164 5 = some (.aload_n 0, 1) := by decide +kernel
theorem kx_164_6 : x_code k_P 164 6 = some (.getfield 58, 3) := by decide +kernel
theorem kp_164_58 : x_pool k_P 164 58 = (1, 11, 7) := by decide +kernel
theorem kx_164_9 : x_code k_P 164 9 = some (.arraylength, 1) := by decide +kernel
theorem kx_164_10 : x_code k_P 164 10 = some (.if_icmp .ge 12, 3) := by decide +kernel
theorem kx_164_13 : x_code k_P 164 13 = some (.aload_n 0, 1) := by decide +kernel
theorem kx_164_14 : x_code k_P 164 14 = some (.getfield 58, 3) := by decide +kernel
theorem kx_164_17 : x_code k_P 164 17 = some (.iload_n 1, 1) := by decide +kernel
theorem kx_164_18 : x_code k_P 164 18 = some (.iaload, 1) := by decide +kernel
theorem kx_164_19 : x_code k_P 164 19 = some (.goto 4, 3) := by decide +kernel
theorem m_164 {xs : Nat → Int} {Ln d : Nat} {T : List cK} {M : cM} (hT : TT T) (hI : Rng M) {what : Int} : cC k_P xs Ln (d + 0) 164 [rf 0, (0, what)] (T, M) (qF T M 0 (fun v => True)) := by
  show cP k_P xs Ln (d + 0) 164 0 [(0, rf 0), (1, (0, what))] [] (T, M) _
  refine s_iload_n kx_164_0 rfl ?_
  refine s_if_lt (t := 22) kx_164_1 (by decide) (fun hc1 => ?_) (fun hc1 => ?_)
  · refine s_iconst (v := (-1)) kx_164_22 (by decide) ?_
    exact s_iret kx_164_23 (Or.inl kq_164) ⟨_, rfl, rfl, trivial⟩
  · refine s_iload_n kx_164_4 rfl ?_
    refine s_aload_n kx_164_5 rfl ?_
    refine r_getR (k := 0) (f := 7) (k2 := 61) kx_164_6 kp_164_58 (tk_0 hT) kf_11_7 (by decide) (rq_0_7 hI) ?_
    refine r_alen (k := 61) kx_164_9 (tk_61 hT) ⟨by decide, by decide⟩ ?_
    refine s_icmp_ge (t := 22) kx_164_10 (by decide) (fun hc2 => ?_) (fun hc2 => ?_)
    · refine s_iconst (v := (-1)) kx_164_22 (by decide) ?_
      exact s_iret kx_164_23 (Or.inl kq_164) ⟨_, rfl, rfl, trivial⟩
    · refine s_aload_n kx_164_13 rfl ?_
      refine r_getR (k := 0) (f := 7) (k2 := 61) kx_164_14 kp_164_58 (tk_0 hT) kf_11_7 (by decide) (rq_0_7 hI) ?_
      refine s_iload_n kx_164_17 rfl ?_
      refine r_aldU (k := 61) kx_164_18 (tk_61 hT) ⟨by omega, by omega⟩ (fun v3 v3e => ?_)
      refine s_goto (t := 23) kx_164_19 (by decide) ?_
      exact s_iret kx_164_23 (Or.inl kq_164) ⟨_, rfl, rfl, trivial⟩
