theorem kx_298_0 : x_code k_P 298 0 = some (.lload_n 0, 1) := by decide +kernel
theorem kx_298_1 : x_code k_P 298 1 = some (.lload_n 2, 1) := by decide +kernel
theorem kx_298_2 : x_code k_P 298 2 = some (.lcmp, 1) := by decide +kernel
theorem kx_298_3 : x_code k_P 298 3 = some (.ifCond .lt 7, 3) := by decide +kernel
theorem kx_298_10 : x_code k_P 298 10 = some (.lload_n 2, 1) := by decide +kernel
theorem kx_298_11 : x_code k_P 298 11 = some (.lreturn, 1) := by decide +kernel
theorem kq_298 : x_retk k_P 298 = 3 := by decide +kernel
theorem kx_298_6 : x_code k_P 298 6 = some (.lload_n 0, 1) := by decide +kernel
theorem kx_298_7 : x_code k_P 298 7 = some (.goto 4, 3) := by decide +kernel
theorem m_298 {xs : Nat → Int} {Ln d : Nat} {T : List cK} {M : cM} (hT : TT T) (hI : Rng M) {a b : Int} : cC k_P xs Ln (d + 0) 298 [(1, a), (1, b)] (T, M) (qF T M 1 (fun v => True)) := by
  show cP k_P xs Ln (d + 0) 298 0 [(0, (1, a)), (2, (1, b))] [] (T, M) _
  refine s_lload_n kx_298_0 rfl ?_
  refine s_lload_n kx_298_1 rfl ?_
  refine r_lcmpR kx_298_2 (fun v1 => ?_)
  refine s_if_lt (t := 10) kx_298_3 (by decide) (fun hc2 => ?_) (fun hc2 => ?_)
  · refine s_lload_n kx_298_10 rfl ?_
    exact s_lret kx_298_11 kq_298 ⟨_, rfl, rfl, trivial⟩
  · refine s_lload_n kx_298_6 rfl ?_
    refine s_goto (t := 11) kx_298_7 (by decide) ?_
    exact s_lret kx_298_11 kq_298 ⟨_, rfl, rfl, trivial⟩
theorem kx_300_0 : x_code k_P 300 0 = some (.lload_n 0, 1) := by decide +kernel
theorem kx_300_1 : x_code k_P 300 1 = some (.lload_n 2, 1) := by decide +kernel
theorem kx_300_2 : x_code k_P 300 2 = some (.lcmp, 1) := by decide +kernel
theorem kx_300_3 : x_code k_P 300 3 = some (.ifCond .gt 7, 3) := by decide +kernel
theorem kx_300_10 : x_code k_P 300 10 = some (.lload_n 2, 1) := by decide +kernel
theorem kx_300_11 : x_code k_P 300 11 = some (.lreturn, 1) := by decide +kernel
theorem kq_300 : x_retk k_P 300 = 3 := by decide +kernel
theorem kx_300_6 : x_code k_P 300 6 = some (.lload_n 0, 1) := by decide +kernel
theorem kx_300_7 : x_code k_P 300 7 = some (.goto 4, 3) := by decide +kernel
theorem m_300 {xs : Nat → Int} {Ln d : Nat} {T : List cK} {M : cM} (hT : TT T) (hI : Rng M) {a b : Int} : cC k_P xs Ln (d + 0) 300 [(1, a), (1, b)] (T, M) (qF T M 1 (fun v => True)) := by
  show cP k_P xs Ln (d + 0) 300 0 [(0, (1, a)), (2, (1, b))] [] (T, M) _
  refine s_lload_n kx_300_0 rfl ?_
  refine s_lload_n kx_300_1 rfl ?_
  refine r_lcmpR kx_300_2 (fun v1 => ?_)
  refine s_if_gt (t := 10) kx_300_3 (by decide) (fun hc2 => ?_) (fun hc2 => ?_)
  · refine s_lload_n kx_300_10 rfl ?_
    exact s_lret kx_300_11 kq_300 ⟨_, rfl, rfl, trivial⟩
  · refine s_lload_n kx_300_6 rfl ?_
    refine s_goto (t := 11) kx_300_7 (by decide) ?_
    exact s_lret kx_300_11 kq_300 ⟨_, rfl, rfl, trivial⟩
theorem kx_295_0 : x_code k_P 295 0 = some (.lload_n 0, 1) := by decide +kernel
theorem kx_295_1 : x_code k_P 295 1 = some (.lload_n 2, 1) := by decide +kernel
theorem kx_295_2 : x_code k_P 295 2 = some (.ldiv, 1) := by decide +kernel
theorem kx_295_3 : x_code k_P 295 3 = some (.lstore 4, 2) := by decide +kernel
theorem km_295_5 : 5 < x_maxL k_P 295 := by decide +kernel
theorem kx_295_5 : x_code k_P 295 5 = some (.lload_n 0, 1) := by decide +kernel
theorem kx_295_6 : x_code k_P 295 6 = some (.lload_n 2, 1) := by decide +kernel
theorem kx_295_7 : x_code k_P 295 7 = some (.lxor, 1) := by decide +kernel
theorem kx_295_8 : x_code k_P 295 8 = some (.lconst 0, 1) := by decide +kernel
theorem kx_295_9 : x_code k_P 295 9 = some (.lcmp, 1) := by decide +kernel
theorem kx_295_10 : x_code k_P 295 10 = some (.ifCond .ge 17, 3) := by decide +kernel
theorem kx_295_27 : x_code k_P 295 27 = some (.lload 4, 2) := by decide +kernel
theorem kx_295_29 : x_code k_P 295 29 = some (.lreturn, 1) := by decide +kernel
theorem kq_295 : x_retk k_P 295 = 3 := by decide +kernel
theorem kx_295_13 : x_code k_P 295 13 = some (.lload 4, 2) := by decide +kernel
theorem kx_295_15 : x_code k_P 295 15 = some (.lload_n 2, 1) := by decide +kernel
theorem kx_295_16 : x_code k_P 295 16 = some (.lmul, 1) := by decide +kernel
theorem kx_295_17 : x_code k_P 295 17 = some (.lload_n 0, 1) := by decide +kernel
theorem kx_295_18 : x_code k_P 295 18 = some (.lcmp, 1) := by decide +kernel
theorem kx_295_19 : x_code k_P 295 19 = some (.ifCond .eq 8, 3) := by decide +kernel
theorem kx_295_22 : x_code k_P 295 22 = some (.lload 4, 2) := by decide +kernel
theorem kx_295_24 : x_code k_P 295 24 = some (.lconst 1, 1) := by decide +kernel
theorem kx_295_25 : x_code k_P 295 25 = some (.lsub, 1) := by decide +kernel
theorem kx_295_26 : x_code k_P 295 26 = some (.lreturn, 1) := by decide +kernel
theorem m_295 {xs : Nat → Int} {Ln d : Nat} {T : List cK} {M : cM} (hT : TT T) (hI : Rng M) {a b : Int} (p0 : b ≠ 0) : cC k_P xs Ln (d + 0) 295 [(1, a), (1, b)] (T, M) (qF T M 1 (fun v => True)) := by
  show cP k_P xs Ln (d + 0) 295 0 [(0, (1, a)), (2, (1, b))] [] (T, M) _
  refine s_lload_n kx_295_0 rfl ?_
  refine s_lload_n kx_295_1 rfl ?_
  refine r_ldivR kx_295_2 (by omega) (fun v1 v1a v1b => ?_)
  refine s_lstore kx_295_3 km_295_5 rfl ?_
  refine s_lload_n kx_295_5 rfl ?_
  refine s_lload_n kx_295_6 rfl ?_
  refine r_lxorR kx_295_7 (fun v2 v2a v2b => ?_)
  refine s_lconst (v := 0) kx_295_8 (by decide) ?_
  refine r_lcmpR kx_295_9 (fun v3 => ?_)
  refine s_if_ge (t := 27) kx_295_10 (by decide) (fun hc4 => ?_) (fun hc4 => ?_)
  · refine s_lload kx_295_27 rfl ?_
    exact s_lret kx_295_29 kq_295 ⟨_, rfl, rfl, trivial⟩
  · refine s_lload kx_295_13 rfl ?_
    refine s_lload_n kx_295_15 rfl ?_
    refine r_lmulR kx_295_16 (fun v5 v5a v5b => ?_)
    refine s_lload_n kx_295_17 rfl ?_
    refine r_lcmpR kx_295_18 (fun v6 => ?_)
    refine s_if_eq (t := 27) kx_295_19 (by decide) (fun hc7 => ?_) (fun hc7 => ?_)
    · refine s_lload kx_295_27 rfl ?_
      exact s_lret kx_295_29 kq_295 ⟨_, rfl, rfl, trivial⟩
    · refine s_lload kx_295_22 rfl ?_
      refine s_lconst (v := 1) kx_295_24 (by decide) ?_
      refine r_lsubR kx_295_25 (fun v8 v8a v8b => ?_)
      exact s_lret kx_295_26 kq_295 ⟨_, rfl, rfl, trivial⟩
theorem kx_296_0 : x_code k_P 296 0 = some (.iload_n 0, 1) := by decide +kernel
theorem kx_296_1 : x_code k_P 296 1 = some (.iload_n 1, 1) := by decide +kernel
theorem kx_296_2 : x_code k_P 296 2 = some (.irem, 1) := by decide +kernel
theorem kx_296_3 : x_code k_P 296 3 = some (.istore_n 2, 1) := by decide +kernel
theorem km_296_2 : 2 < x_maxL k_P 296 := by decide +kernel
theorem kx_296_4 : x_code k_P 296 4 = some (.iload_n 0, 1) := by decide +kernel
theorem kx_296_5 : x_code k_P 296 5 = some (.iload_n 1, 1) := by decide +kernel
theorem kx_296_6 : x_code k_P 296 6 = some (.ixor, 1) := by decide +kernel
theorem kx_296_7 : x_code k_P 296 7 = some (.ifCond .ge 11, 3) := by decide +kernel
theorem kx_296_18 : x_code k_P 296 18 = some (.iload_n 2, 1) := by decide +kernel
theorem kx_296_19 : x_code k_P 296 19 = some (.ireturn, 1) := by decide +kernel
theorem kq_296 : x_retk k_P 296 = 1 := by decide +kernel
theorem kx_296_10 : x_code k_P 296 10 = some (.iload_n 2, 1) := by decide +kernel
theorem kx_296_11 : x_code k_P 296 11 = some (.ifCond .eq 7, 3) := by decide +kernel
theorem kx_296_14 : x_code k_P 296 14 = some (.iload_n 2, 1) := by decide +kernel
theorem kx_296_15 : x_code k_P 296 15 = some (.iload_n 1, 1) := by decide +kernel
theorem kx_296_16 : x_code k_P 296 16 = some (.iadd, 1) := by decide +kernel
theorem kx_296_17 : x_code k_P 296 17 = some (.ireturn, 1) := by decide +kernel
theorem m_296 {xs : Nat → Int} {Ln d : Nat} {T : List cK} {M : cM} (hT : TT T) (hI : Rng M) {a b : Int} (p0 : b ≠ 0) : cC k_P xs Ln (d + 0) 296 [(0, a), (0, b)] (T, M) (qF T M 0 (fun v => True)) := by
  show cP k_P xs Ln (d + 0) 296 0 [(0, (0, a)), (1, (0, b))] [] (T, M) _
  refine s_iload_n kx_296_0 rfl ?_
  refine s_iload_n kx_296_1 rfl ?_
  refine r_iremR kx_296_2 (by omega) (fun v1 v1a v1b => ?_)
  refine s_istore_n kx_296_3 km_296_2 rfl ?_
  refine s_iload_n kx_296_4 rfl ?_
  refine s_iload_n kx_296_5 rfl ?_
  refine r_ixorR kx_296_6 (fun v2 v2a v2b => ?_)
  refine s_if_ge (t := 18) kx_296_7 (by decide) (fun hc3 => ?_) (fun hc3 => ?_)
  · refine s_iload_n kx_296_18 rfl ?_
    exact s_iret kx_296_19 (Or.inl kq_296) ⟨_, rfl, rfl, trivial⟩
  · refine s_iload_n kx_296_10 rfl ?_
    refine s_if_eq (t := 18) kx_296_11 (by decide) (fun hc4 => ?_) (fun hc4 => ?_)
    · refine s_iload_n kx_296_18 rfl ?_
      exact s_iret kx_296_19 (Or.inl kq_296) ⟨_, rfl, rfl, trivial⟩
    · refine s_iload_n kx_296_14 rfl ?_
      refine s_iload_n kx_296_15 rfl ?_
      refine r_iaddR kx_296_16 (fun v5 v5a v5b => ?_)
      exact s_iret kx_296_17 (Or.inl kq_296) ⟨_, rfl, rfl, trivial⟩
theorem kx_294_0 : x_code k_P 294 0 = some (.iload_n 0, 1) := by decide +kernel
theorem kx_294_1 : x_code k_P 294 1 = some (.iload_n 0, 1) := by decide +kernel
theorem kx_294_2 : x_code k_P 294 2 = some (.iconst 1, 1) := by decide +kernel
theorem kx_294_3 : x_code k_P 294 3 = some (.iushr, 1) := by decide +kernel
theorem kx_294_4 : x_code k_P 294 4 = some (.ldc_w 265, 3) := by decide +kernel
theorem kp_294_265 : x_pool k_P 294 265 = (7, 0, 1431655765) := by decide +kernel
theorem kx_294_7 : x_code k_P 294 7 = some (.iand, 1) := by decide +kernel
theorem kx_294_8 : x_code k_P 294 8 = some (.isub, 1) := by decide +kernel
theorem kx_294_9 : x_code k_P 294 9 = some (.istore_n 0, 1) := by decide +kernel
theorem km_294_0 : 0 < x_maxL k_P 294 := by decide +kernel
theorem kx_294_10 : x_code k_P 294 10 = some (.iload_n 0, 1) := by decide +kernel
theorem kx_294_11 : x_code k_P 294 11 = some (.ldc_w 266, 3) := by decide +kernel
theorem kp_294_266 : x_pool k_P 294 266 = (7, 0, 858993459) := by decide +kernel
theorem kx_294_14 : x_code k_P 294 14 = some (.iand, 1) := by decide +kernel
theorem kx_294_15 : x_code k_P 294 15 = some (.iload_n 0, 1) := by decide +kernel
theorem kx_294_16 : x_code k_P 294 16 = some (.iconst 2, 1) := by decide +kernel
theorem kx_294_17 : x_code k_P 294 17 = some (.iushr, 1) := by decide +kernel
theorem kx_294_18 : x_code k_P 294 18 = some (.ldc_w 266, 3) := by decide +kernel
theorem kx_294_21 : x_code k_P 294 21 = some (.iand, 1) := by decide +kernel
theorem kx_294_22 : x_code k_P 294 22 = some (.iadd, 1) := by decide +kernel
theorem kx_294_23 : x_code k_P 294 23 = some (.istore_n 0, 1) := by decide +kernel
theorem kx_294_24 : x_code k_P 294 24 = some (.iload_n 0, 1) := by decide +kernel
theorem kx_294_25 : x_code k_P 294 25 = some (.iload_n 0, 1) := by decide +kernel
theorem kx_294_26 : x_code k_P 294 26 = some (.iconst 4, 1) := by decide +kernel
theorem kx_294_27 : x_code k_P 294 27 = some (.iushr, 1) := by decide +kernel
theorem kx_294_28 : x_code k_P 294 28 = some (.iadd, 1) := by decide +kernel
theorem kx_294_29 : x_code k_P 294 29 = some (.ldc_w 267, 3) := by decide +kernel
theorem kp_294_267 : x_pool k_P 294 267 = (7, 0, 252645135) := by decide +kernel
theorem kx_294_32 : x_code k_P 294 32 = some (.iand, 1) := by decide +kernel
theorem kx_294_33 : x_code k_P 294 33 = some (.istore_n 0, 1) := by decide +kernel
theorem kx_294_34 : x_code k_P 294 34 = some (.iload_n 0, 1) := by decide +kernel
theorem kx_294_35 : x_code k_P 294 35 = some (.iload_n 0, 1) := by decide +kernel
theorem kx_294_36 : x_code k_P 294 36 = some (.bipush 8, 2) := by decide +kernel
theorem kx_294_38 : x_code k_P 294 38 = some (.iushr, 1) := by decide +kernel
theorem kx_294_39 : x_code k_P 294 39 = some (.iadd, 1) := by decide +kernel
theorem kx_294_40 : x_code k_P 294 40 = some (.istore_n 0, 1) := by decide +kernel
theorem kx_294_41 : x_code k_P 294 41 = some (.iload_n 0, 1) := by decide +kernel
theorem kx_294_42 : x_code k_P 294 42 = some (.iload_n 0, 1) := by decide +kernel
theorem kx_294_43 : x_code k_P 294 43 = some (.bipush 16, 2) := by decide +kernel
theorem kx_294_45 : x_code k_P 294 45 = some (.iushr, 1) := by decide +kernel
theorem kx_294_46 : x_code k_P 294 46 = some (.iadd, 1) := by decide +kernel
theorem kx_294_47 : x_code k_P 294 47 = some (.istore_n 0, 1) := by decide +kernel
theorem kx_294_48 : x_code k_P 294 48 = some (.iload_n 0, 1) := by decide +kernel
theorem kx_294_49 : x_code k_P 294 49 = some (.bipush 63, 2) := by decide +kernel
theorem kx_294_51 : x_code k_P 294 51 = some (.iand, 1) := by decide +kernel
theorem kx_294_52 : x_code k_P 294 52 = some (.ireturn, 1) := by decide +kernel
theorem kq_294 : x_retk k_P 294 = 1 := by decide +kernel
theorem m_294 {xs : Nat → Int} {Ln d : Nat} {T : List cK} {M : cM} (hT : TT T) (hI : Rng M) {a : Int} : cC k_P xs Ln (d + 0) 294 [(0, a)] (T, M) (qF T M 0 (fun v => True)) := by
  show cP k_P xs Ln (d + 0) 294 0 [(0, (0, a))] [] (T, M) _
  refine s_iload_n kx_294_0 rfl ?_
  refine s_iload_n kx_294_1 rfl ?_
  refine s_iconst (v := 1) kx_294_2 (by decide) ?_
  refine r_iushrR kx_294_3 (fun v1 v1a v1b => ?_)
  refine s_ldc_w kx_294_4 kp_294_265 ?_
  refine r_iandM kx_294_7 (by decide) (by decide) (fun v2 v2a v2b => ?_)
  refine r_isubR kx_294_8 (fun v3 v3a v3b => ?_)
  refine s_istore_n kx_294_9 km_294_0 rfl ?_
  refine s_iload_n kx_294_10 rfl ?_
  refine s_ldc_w kx_294_11 kp_294_266 ?_
  refine r_iandM kx_294_14 (by decide) (by decide) (fun v4 v4a v4b => ?_)
  refine s_iload_n kx_294_15 rfl ?_
  refine s_iconst (v := 2) kx_294_16 (by decide) ?_
  refine r_iushrR kx_294_17 (fun v5 v5a v5b => ?_)
  refine s_ldc_w kx_294_18 kp_294_266 ?_
  refine r_iandM kx_294_21 (by decide) (by decide) (fun v6 v6a v6b => ?_)
  refine r_add kx_294_22 ⟨by omega, by omega⟩ ?_
  refine s_istore_n kx_294_23 km_294_0 rfl ?_
  refine s_iload_n kx_294_24 rfl ?_
  refine s_iload_n kx_294_25 rfl ?_
  refine s_iconst (v := 4) kx_294_26 (by decide) ?_
  refine r_iushrR kx_294_27 (fun v7 v7a v7b => ?_)
  refine r_iaddR kx_294_28 (fun v8 v8a v8b => ?_)
  refine s_ldc_w kx_294_29 kp_294_267 ?_
  refine r_iandM kx_294_32 (by decide) (by decide) (fun v9 v9a v9b => ?_)
  refine s_istore_n kx_294_33 km_294_0 rfl ?_
  refine s_iload_n kx_294_34 rfl ?_
  refine s_iload_n kx_294_35 rfl ?_
  refine s_bipush (v := 8) kx_294_36 (by decide) ?_
  refine r_iushrR kx_294_38 (fun v10 v10a v10b => ?_)
  refine r_iaddR kx_294_39 (fun v11 v11a v11b => ?_)
  refine s_istore_n kx_294_40 km_294_0 rfl ?_
  refine s_iload_n kx_294_41 rfl ?_
  refine s_iload_n kx_294_42 rfl ?_
  refine s_bipush (v := 16) kx_294_43 (by decide) ?_
  refine r_iushrR kx_294_45 (fun v12 v12a v12b => ?_)
  refine r_iaddR kx_294_46 (fun v13 v13a v13b => ?_)
  refine s_istore_n kx_294_47 km_294_0 rfl ?_
  refine s_iload_n kx_294_48 rfl ?_
  refine s_bipush (v := 63) kx_294_49 (by decide) ?_
  refine r_iandM kx_294_51 (by decide) (by decide) (fun v14 v14a v14b => ?_)
  exact s_iret kx_294_52 (Or.inl kq_294) ⟨_, rfl, rfl, trivial⟩
theorem kx_12_0 : x_code k_P 12 0 = some (.iload_n 0, 1) := by decide +kernel
theorem kx_12_1 : x_code k_P 12 1 = some (.bipush (-6), 2) := by decide +kernel
theorem kx_12_3 : x_code k_P 12 3 = some (.if_icmp .lt 5, 3) := by decide +kernel
theorem kx_12_8 : x_code k_P 12 8 = some (.iload_n 0, 1) := by decide +kernel
theorem kx_12_9 : x_code k_P 12 9 = some (.bipush (-20), 2) := by decide +kernel
theorem kx_12_11 : x_code k_P 12 11 = some (.if_icmp .ne 5, 3) := by decide +kernel
theorem kx_12_16 : x_code k_P 12 16 = some (.iload_n 0, 1) := by decide +kernel
theorem kx_12_17 : x_code k_P 12 17 = some (.bipush (-19), 2) := by decide +kernel
theorem kx_12_19 : x_code k_P 12 19 = some (.if_icmp .ne 7, 3) := by decide +kernel
theorem kx_12_26 : x_code k_P 12 26 = some (.iconst 2, 1) := by decide +kernel
theorem kx_12_27 : x_code k_P 12 27 = some (.ireturn, 1) := by decide +kernel
theorem kq_12 : x_retk k_P 12 = 1 := by decide +kernel
theorem kx_12_22 : x_code k_P 12 22 = some (.iconst 1, 1) := by decide +kernel
theorem kx_12_23 : x_code k_P 12 23 = some (.goto 4, 3) := by decide +kernel
theorem kx_12_14 : x_code k_P 12 14 = some (.iconst 3, 1) := by decide +kernel
theorem kx_12_15 : x_code k_P 12 15 = some (.ireturn, 1) := by decide +kernel
theorem kx_12_6 : x_code k_P 12 6 = some (.iconst 0, 1) := by decide +kernel
theorem kx_12_7 : x_code k_P 12 7 = some (.ireturn, 1) := by decide +kernel
theorem m_12 {xs : Nat → Int} {Ln d : Nat} {T : List cK} {M : cM} (hT : TT T) (hI : Rng M) {step : Int} : cC k_P xs Ln (d + 0) 12 [(0, step)] (T, M) (qF T M 0 (fun v => 0 ≤ v ∧ v ≤ 3 ∧ ((v = 0 ∨ step < -6) ∧ (v ≠ 0 ∨ -6 ≤ step)))) := by
  show cP k_P xs Ln (d + 0) 12 0 [(0, (0, step))] [] (T, M) _
  refine s_iload_n kx_12_0 rfl ?_
  refine s_bipush (v := (-6)) kx_12_1 (by decide) ?_
  refine s_icmp_lt (t := 8) kx_12_3 (by decide) (fun hc1 => ?_) (fun hc1 => ?_)
  · refine s_iload_n kx_12_8 rfl ?_
    refine s_bipush (v := (-20)) kx_12_9 (by decide) ?_
    refine s_icmp_ne (t := 16) kx_12_11 (by decide) (fun hc2 => ?_) (fun hc2 => ?_)
    · refine s_iload_n kx_12_16 rfl ?_
      refine s_bipush (v := (-19)) kx_12_17 (by decide) ?_
      refine s_icmp_ne (t := 26) kx_12_19 (by decide) (fun hc3 => ?_) (fun hc3 => ?_)
      · refine s_iconst (v := 2) kx_12_26 (by decide) ?_
        exact s_iret kx_12_27 (Or.inl kq_12) ⟨_, rfl, rfl, (by omega)⟩
      · refine s_iconst (v := 1) kx_12_22 (by decide) ?_
        refine s_goto (t := 27) kx_12_23 (by decide) ?_
        exact s_iret kx_12_27 (Or.inl kq_12) ⟨_, rfl, rfl, (by omega)⟩
    · refine s_iconst (v := 3) kx_12_14 (by decide) ?_
      exact s_iret kx_12_15 (Or.inl kq_12) ⟨_, rfl, rfl, (by omega)⟩
  · refine s_iconst (v := 0) kx_12_6 (by decide) ?_
    exact s_iret kx_12_7 (Or.inl kq_12) ⟨_, rfl, rfl, (by omega)⟩
theorem kx_14_0 : x_code k_P 14 0 = some (.ldc2_w 56, 3) := by decide +kernel
theorem kp_14_56 : x_pool k_P 14 56 = (8, 0, (-1000000)) := by decide +kernel
theorem kx_14_3 : x_code k_P 14 3 = some (.ldc2_w 58, 3) := by decide +kernel
theorem kp_14_58 : x_pool k_P 14 58 = (8, 0, 1000000) := by decide +kernel
theorem kx_14_6 : x_code k_P 14 6 = some (.lload_n 0, 1) := by decide +kernel
theorem kx_14_7 : x_code k_P 14 7 = some (.invokestatic 60, 3) := by decide +kernel
theorem kp_14_60 : x_pool k_P 14 60 = (6, 300, 2) := by decide +kernel
theorem kcl_300 : x_maxL k_P 300 ≤ 60 ∧ 4 ≤ x_maxL k_P 300 := by decide +kernel
theorem kx_14_10 : x_code k_P 14 10 = some (.invokestatic 62, 3) := by decide +kernel
theorem kp_14_62 : x_pool k_P 14 62 = (6, 298, 2) := by decide +kernel
theorem kcl_298 : x_maxL k_P 298 ≤ 60 ∧ 4 ≤ x_maxL k_P 298 := by decide +kernel
theorem kx_14_13 : x_code k_P 14 13 = some (.l2i, 1) := by decide +kernel
theorem kx_14_14 : x_code k_P 14 14 = some (.ireturn, 1) := by decide +kernel
theorem kq_14 : x_retk k_P 14 = 1 := by decide +kernel
theorem m_14 {xs : Nat → Int} {Ln d : Nat} {T : List cK} {M : cM} (hT : TT T) (hI : Rng M) {worth : Int} : cC k_P xs Ln (d + 1) 14 [(1, worth)] (T, M) (qF T M 0 (fun v => True)) := by
  show cP k_P xs Ln (d + 1) 14 0 [(0, (1, worth))] [] (T, M) _
  refine s_ldc2_w kx_14_0 kp_14_56 ?_
  refine s_ldc2_w kx_14_3 kp_14_58 ?_
  refine s_lload_n kx_14_6 rfl ?_
  refine s_callS2 (s1 := 4) (s2 := 2) (as := [(1, worth), (1, 1000000)]) (rest := [(1, (-1000000))]) kx_14_7 kp_14_60 rfl kcl_300 rfl rfl (by decide) (m_300 (d := d) (a := 1000000) (b := worth) hT hI) (kF (fun v1 v1p => ?_))
  refine s_callS2 (s1 := 4) (s2 := 0) (as := [(1, v1), (1, (-1000000))]) (rest := []) kx_14_10 kp_14_62 rfl kcl_298 rfl rfl (by decide) (m_298 (d := d) (a := (-1000000)) (b := v1) hT hI) (kF (fun v2 v2p => ?_))
  refine r_l2iR kx_14_13 (fun v3 v3a v3b => ?_)
  exact s_iret kx_14_14 (Or.inl kq_14) ⟨_, rfl, rfl, trivial⟩
theorem kx_13_0 : x_code k_P 13 0 = some (.iload_n 0, 1) := by decide +kernel
theorem kx_13_1 : x_code k_P 13 1 = some (.tableswitch 176 (-18) (-7) #[172, 168, 157, 146, 135, 129, 123, 109, 90, 81, 72, 63], 63) := by decide +kernel
theorem kx_13_173 : x_code k_P 13 173 = some (.iload_n 1, 1) := by decide +kernel
theorem kx_13_174 : x_code k_P 13 174 = some (.iload_n 2, 1) := by decide +kernel
theorem kx_13_175 : x_code k_P 13 175 = some (.ior, 1) := by decide +kernel
theorem kx_13_176 : x_code k_P 13 176 = some (.ireturn, 1) := by decide +kernel
theorem kq_13 : x_retk k_P 13 = 1 := by decide +kernel
theorem kx_13_169 : x_code k_P 13 169 = some (.iload_n 1, 1) := by decide +kernel
theorem kx_13_170 : x_code k_P 13 170 = some (.iload_n 2, 1) := by decide +kernel
theorem kx_13_171 : x_code k_P 13 171 = some (.iand, 1) := by decide +kernel
theorem kx_13_172 : x_code k_P 13 172 = some (.ireturn, 1) := by decide +kernel
theorem kx_13_158 : x_code k_P 13 158 = some (.iload_n 1, 1) := by decide +kernel
theorem kx_13_159 : x_code k_P 13 159 = some (.iload_n 2, 1) := by decide +kernel
theorem kx_13_160 : x_code k_P 13 160 = some (.if_icmp .ne 7, 3) := by decide +kernel
theorem kx_13_167 : x_code k_P 13 167 = some (.iconst 0, 1) := by decide +kernel
theorem kx_13_168 : x_code k_P 13 168 = some (.ireturn, 1) := by decide +kernel
theorem kx_13_163 : x_code k_P 13 163 = some (.iconst 1, 1) := by decide +kernel
theorem kx_13_164 : x_code k_P 13 164 = some (.goto 4, 3) := by decide +kernel
theorem kx_13_147 : x_code k_P 13 147 = some (.iload_n 1, 1) := by decide +kernel
theorem kx_13_148 : x_code k_P 13 148 = some (.iload_n 2, 1) := by decide +kernel
theorem kx_13_149 : x_code k_P 13 149 = some (.if_icmp .le 7, 3) := by decide +kernel
theorem kx_13_156 : x_code k_P 13 156 = some (.iconst 0, 1) := by decide +kernel
theorem kx_13_157 : x_code k_P 13 157 = some (.ireturn, 1) := by decide +kernel
theorem kx_13_152 : x_code k_P 13 152 = some (.iconst 1, 1) := by decide +kernel
theorem kx_13_153 : x_code k_P 13 153 = some (.goto 4, 3) := by decide +kernel
theorem kx_13_136 : x_code k_P 13 136 = some (.iload_n 1, 1) := by decide +kernel
theorem kx_13_137 : x_code k_P 13 137 = some (.iload_n 2, 1) := by decide +kernel
theorem kx_13_138 : x_code k_P 13 138 = some (.if_icmp .ge 7, 3) := by decide +kernel
theorem kx_13_145 : x_code k_P 13 145 = some (.iconst 0, 1) := by decide +kernel
theorem kx_13_146 : x_code k_P 13 146 = some (.ireturn, 1) := by decide +kernel
theorem kx_13_141 : x_code k_P 13 141 = some (.iconst 1, 1) := by decide +kernel
theorem kx_13_142 : x_code k_P 13 142 = some (.goto 4, 3) := by decide +kernel
theorem kx_13_130 : x_code k_P 13 130 = some (.iload_n 1, 1) := by decide +kernel
theorem kx_13_131 : x_code k_P 13 131 = some (.iload_n 2, 1) := by decide +kernel
theorem kx_13_132 : x_code k_P 13 132 = some (.invokestatic 42, 3) := by decide +kernel
theorem kp_13_42 : x_pool k_P 13 42 = (6, 297, 2) := by decide +kernel
theorem kx_13_135 : x_code k_P 13 135 = some (.ireturn, 1) := by decide +kernel
theorem kx_13_124 : x_code k_P 13 124 = some (.iload_n 1, 1) := by decide +kernel
theorem kx_13_125 : x_code k_P 13 125 = some (.iload_n 2, 1) := by decide +kernel
theorem kx_13_126 : x_code k_P 13 126 = some (.invokestatic 36, 3) := by decide +kernel
theorem kp_13_36 : x_pool k_P 13 36 = (6, 299, 2) := by decide +kernel
theorem kx_13_129 : x_code k_P 13 129 = some (.ireturn, 1) := by decide +kernel
theorem kx_13_110 : x_code k_P 13 110 = some (.iload_n 2, 1) := by decide +kernel
theorem kx_13_111 : x_code k_P 13 111 = some (.ifCond .ne 7, 3) := by decide +kernel
theorem kx_13_118 : x_code k_P 13 118 = some (.iload_n 1, 1) := by decide +kernel
theorem kx_13_119 : x_code k_P 13 119 = some (.iload_n 2, 1) := by decide +kernel
theorem kx_13_120 : x_code k_P 13 120 = some (.invokestatic 53, 3) := by decide +kernel
theorem kp_13_53 : x_pool k_P 13 53 = (6, 296, 2) := by decide +kernel
theorem kcl_296 : x_maxL k_P 296 ≤ 60 ∧ 2 ≤ x_maxL k_P 296 := by decide +kernel
theorem kx_13_123 : x_code k_P 13 123 = some (.ireturn, 1) := by decide +kernel
theorem kx_13_114 : x_code k_P 13 114 = some (.iconst 0, 1) := by decide +kernel
theorem kx_13_115 : x_code k_P 13 115 = some (.goto 8, 3) := by decide +kernel
theorem kx_13_91 : x_code k_P 13 91 = some (.iload_n 2, 1) := by decide +kernel
theorem kx_13_92 : x_code k_P 13 92 = some (.ifCond .ne 7, 3) := by decide +kernel
theorem kx_13_99 : x_code k_P 13 99 = some (.iload_n 1, 1) := by decide +kernel
theorem kx_13_100 : x_code k_P 13 100 = some (.i2l, 1) := by decide +kernel
theorem kx_13_101 : x_code k_P 13 101 = some (.iload_n 2, 1) := by decide +kernel
theorem kx_13_102 : x_code k_P 13 102 = some (.i2l, 1) := by decide +kernel
theorem kx_13_103 : x_code k_P 13 103 = some (.invokestatic 49, 3) := by decide +kernel
theorem kp_13_49 : x_pool k_P 13 49 = (6, 295, 2) := by decide +kernel
theorem kcl_295 : x_maxL k_P 295 ≤ 60 ∧ 4 ≤ x_maxL k_P 295 := by decide +kernel
theorem kx_13_106 : x_code k_P 13 106 = some (.invokestatic 45, 3) := by decide +kernel
theorem kp_13_45 : x_pool k_P 13 45 = (6, 14, 1) := by decide +kernel
theorem kcl_14 : x_maxL k_P 14 ≤ 60 ∧ 2 ≤ x_maxL k_P 14 := by decide +kernel
theorem kx_13_109 : x_code k_P 13 109 = some (.ireturn, 1) := by decide +kernel
theorem kx_13_95 : x_code k_P 13 95 = some (.iconst 0, 1) := by decide +kernel
theorem kx_13_96 : x_code k_P 13 96 = some (.goto 13, 3) := by decide +kernel
theorem kx_13_82 : x_code k_P 13 82 = some (.iload_n 1, 1) := by decide +kernel
theorem kx_13_83 : x_code k_P 13 83 = some (.i2l, 1) := by decide +kernel
theorem kx_13_84 : x_code k_P 13 84 = some (.iload_n 2, 1) := by decide +kernel
theorem kx_13_85 : x_code k_P 13 85 = some (.i2l, 1) := by decide +kernel
theorem kx_13_86 : x_code k_P 13 86 = some (.lmul, 1) := by decide +kernel
theorem kx_13_87 : x_code k_P 13 87 = some (.invokestatic 45, 3) := by decide +kernel
theorem kx_13_90 : x_code k_P 13 90 = some (.ireturn, 1) := by decide +kernel
theorem kx_13_73 : x_code k_P 13 73 = some (.iload_n 1, 1) := by decide +kernel
theorem kx_13_74 : x_code k_P 13 74 = some (.i2l, 1) := by decide +kernel
theorem kx_13_75 : x_code k_P 13 75 = some (.iload_n 2, 1) := by decide +kernel
theorem kx_13_76 : x_code k_P 13 76 = some (.i2l, 1) := by decide +kernel
theorem kx_13_77 : x_code k_P 13 77 = some (.lsub, 1) := by decide +kernel
theorem kx_13_78 : x_code k_P 13 78 = some (.invokestatic 45, 3) := by decide +kernel
theorem kx_13_81 : x_code k_P 13 81 = some (.ireturn, 1) := by decide +kernel
theorem kx_13_64 : x_code k_P 13 64 = some (.iload_n 1, 1) := by decide +kernel
theorem kx_13_65 : x_code k_P 13 65 = some (.i2l, 1) := by decide +kernel
theorem kx_13_66 : x_code k_P 13 66 = some (.iload_n 2, 1) := by decide +kernel
theorem kx_13_67 : x_code k_P 13 67 = some (.i2l, 1) := by decide +kernel
theorem kx_13_68 : x_code k_P 13 68 = some (.ladd, 1) := by decide +kernel
theorem kx_13_69 : x_code k_P 13 69 = some (.invokestatic 45, 3) := by decide +kernel
theorem kx_13_72 : x_code k_P 13 72 = some (.ireturn, 1) := by decide +kernel
theorem kx_13_177 : x_code k_P 13 177 = some (.iconst 0, 1) := by decide +kernel
theorem kx_13_178 : x_code k_P 13 178 = some (.ireturn, 1) := by decide +kernel
theorem m_13 {xs : Nat → Int} {Ln d : Nat} {T : List cK} {M : cM} (hT : TT T) (hI : Rng M) {step a b : Int} : cC k_P xs Ln (d + 2) 13 [(0, step), (0, a), (0, b)] (T, M) (qF T M 0 (fun v => True)) := by
  show cP k_P xs Ln (d + 2) 13 0 [(0, (0, step)), (1, (0, a)), (2, (0, b))] [] (T, M) _
  refine s_iload_n kx_13_0 rfl ?_
  rcases (by omega : step = (-18) ∨ step = (-17) ∨ step = (-16) ∨ step = (-15) ∨ step = (-14) ∨ step = (-13) ∨ step = (-12) ∨ step = (-11) ∨ step = (-10) ∨ step = (-9) ∨ step = (-8) ∨ step = (-7) ∨ (step < (-18) ∨ (-7) < step)) with hs1 | hs1 | hs1 | hs1 | hs1 | hs1 | hs1 | hs1 | hs1 | hs1 | hs1 | hs1 | hs1
  · refine s_tsw (t := 173) kx_13_1 (by decide) (-18) hs1 (by decide) ?_
    refine s_iload_n kx_13_173 rfl ?_
    refine s_iload_n kx_13_174 rfl ?_
    refine r_iorR kx_13_175 (fun v2 v2a v2b => ?_)
    exact s_iret kx_13_176 (Or.inl kq_13) ⟨_, rfl, rfl, trivial⟩
  · refine s_tsw (t := 169) kx_13_1 (by decide) (-17) hs1 (by decide) ?_
    refine s_iload_n kx_13_169 rfl ?_
    refine s_iload_n kx_13_170 rfl ?_
    refine r_iandR kx_13_171 (fun v3 v3a v3b => ?_)
    exact s_iret kx_13_172 (Or.inl kq_13) ⟨_, rfl, rfl, trivial⟩
  · refine s_tsw (t := 158) kx_13_1 (by decide) (-16) hs1 (by decide) ?_
    refine s_iload_n kx_13_158 rfl ?_
    refine s_iload_n kx_13_159 rfl ?_
    refine s_icmp_ne (t := 167) kx_13_160 (by decide) (fun hc4 => ?_) (fun hc4 => ?_)
    · refine s_iconst (v := 0) kx_13_167 (by decide) ?_
      exact s_iret kx_13_168 (Or.inl kq_13) ⟨_, rfl, rfl, trivial⟩
    · refine s_iconst (v := 1) kx_13_163 (by decide) ?_
      refine s_goto (t := 168) kx_13_164 (by decide) ?_
      exact s_iret kx_13_168 (Or.inl kq_13) ⟨_, rfl, rfl, trivial⟩
  · refine s_tsw (t := 147) kx_13_1 (by decide) (-15) hs1 (by decide) ?_
    refine s_iload_n kx_13_147 rfl ?_
    refine s_iload_n kx_13_148 rfl ?_
    refine s_icmp_le (t := 156) kx_13_149 (by decide) (fun hc5 => ?_) (fun hc5 => ?_)
    · refine s_iconst (v := 0) kx_13_156 (by decide) ?_
      exact s_iret kx_13_157 (Or.inl kq_13) ⟨_, rfl, rfl, trivial⟩
    · refine s_iconst (v := 1) kx_13_152 (by decide) ?_
      refine s_goto (t := 157) kx_13_153 (by decide) ?_
      exact s_iret kx_13_157 (Or.inl kq_13) ⟨_, rfl, rfl, trivial⟩
  · refine s_tsw (t := 136) kx_13_1 (by decide) (-14) hs1 (by decide) ?_
    refine s_iload_n kx_13_136 rfl ?_
    refine s_iload_n kx_13_137 rfl ?_
    refine s_icmp_ge (t := 145) kx_13_138 (by decide) (fun hc6 => ?_) (fun hc6 => ?_)
    · refine s_iconst (v := 0) kx_13_145 (by decide) ?_
      exact s_iret kx_13_146 (Or.inl kq_13) ⟨_, rfl, rfl, trivial⟩
    · refine s_iconst (v := 1) kx_13_141 (by decide) ?_
      refine s_goto (t := 146) kx_13_142 (by decide) ?_
      exact s_iret kx_13_146 (Or.inl kq_13) ⟨_, rfl, rfl, trivial⟩
  · refine s_tsw (t := 130) kx_13_1 (by decide) (-13) hs1 (by decide) ?_
    refine s_iload_n kx_13_130 rfl ?_
    refine s_iload_n kx_13_131 rfl ?_
    refine s_callS2 (s1 := 2) (s2 := 0) (as := [(0, b), (0, a)]) (rest := []) kx_13_132 kp_13_42 rfl kcl_297 rfl rfl (by decide) (m_297 (d := d + 1) (a := a) (b := b) hT hI) (kF (fun v7 v7p => ?_))
    exact s_iret kx_13_135 (Or.inl kq_13) ⟨_, rfl, rfl, trivial⟩
  · refine s_tsw (t := 124) kx_13_1 (by decide) (-12) hs1 (by decide) ?_
    refine s_iload_n kx_13_124 rfl ?_
    refine s_iload_n kx_13_125 rfl ?_
    refine s_callS2 (s1 := 2) (s2 := 0) (as := [(0, b), (0, a)]) (rest := []) kx_13_126 kp_13_36 rfl kcl_299 rfl rfl (by decide) (m_299 (d := d + 1) (a := a) (b := b) hT hI) (kF (fun v8 v8p => ?_))
    exact s_iret kx_13_129 (Or.inl kq_13) ⟨_, rfl, rfl, trivial⟩
  · refine s_tsw (t := 110) kx_13_1 (by decide) (-11) hs1 (by decide) ?_
    refine s_iload_n kx_13_110 rfl ?_
    refine s_if_ne (t := 118) kx_13_111 (by decide) (fun hc9 => ?_) (fun hc9 => ?_)
    · refine s_iload_n kx_13_118 rfl ?_
      refine s_iload_n kx_13_119 rfl ?_
      refine s_callS2 (s1 := 2) (s2 := 0) (as := [(0, b), (0, a)]) (rest := []) kx_13_120 kp_13_53 rfl kcl_296 rfl rfl (by decide) (m_296 (d := d + 1) (a := a) (b := b) hT hI (by omega)) (kF (fun v10 v10p => ?_))
      exact s_iret kx_13_123 (Or.inl kq_13) ⟨_, rfl, rfl, trivial⟩
    · refine s_iconst (v := 0) kx_13_114 (by decide) ?_
      refine s_goto (t := 123) kx_13_115 (by decide) ?_
      exact s_iret kx_13_123 (Or.inl kq_13) ⟨_, rfl, rfl, trivial⟩
  · refine s_tsw (t := 91) kx_13_1 (by decide) (-10) hs1 (by decide) ?_
    refine s_iload_n kx_13_91 rfl ?_
    refine s_if_ne (t := 99) kx_13_92 (by decide) (fun hc11 => ?_) (fun hc11 => ?_)
    · refine s_iload_n kx_13_99 rfl ?_
      refine s_i2l kx_13_100 ?_
      refine s_iload_n kx_13_101 rfl ?_
      refine s_i2l kx_13_102 ?_
      refine s_callS2 (s1 := 4) (s2 := 0) (as := [(1, b), (1, a)]) (rest := []) kx_13_103 kp_13_49 rfl kcl_295 rfl rfl (by decide) (m_295 (d := d + 1) (a := a) (b := b) hT hI (by omega)) (kF (fun v12 v12p => ?_))
      refine s_callS2 (s1 := 2) (s2 := 0) (as := [(1, v12)]) (rest := []) kx_13_106 kp_13_45 rfl kcl_14 rfl rfl (by decide) (m_14 (d := d) (worth := v12) hT hI) (kF (fun v13 v13p => ?_))
      exact s_iret kx_13_109 (Or.inl kq_13) ⟨_, rfl, rfl, trivial⟩
    · refine s_iconst (v := 0) kx_13_95 (by decide) ?_
      refine s_goto (t := 109) kx_13_96 (by decide) ?_
      exact s_iret kx_13_109 (Or.inl kq_13) ⟨_, rfl, rfl, trivial⟩
  · refine s_tsw (t := 82) kx_13_1 (by decide) (-9) hs1 (by decide) ?_
    refine s_iload_n kx_13_82 rfl ?_
    refine s_i2l kx_13_83 ?_
    refine s_iload_n kx_13_84 rfl ?_
    refine s_i2l kx_13_85 ?_
    refine r_lmulR kx_13_86 (fun v14 v14a v14b => ?_)
    refine s_callS2 (s1 := 2) (s2 := 0) (as := [(1, v14)]) (rest := []) kx_13_87 kp_13_45 rfl kcl_14 rfl rfl (by decide) (m_14 (d := d) (worth := v14) hT hI) (kF (fun v15 v15p => ?_))
    exact s_iret kx_13_90 (Or.inl kq_13) ⟨_, rfl, rfl, trivial⟩
  · refine s_tsw (t := 73) kx_13_1 (by decide) (-8) hs1 (by decide) ?_
    refine s_iload_n kx_13_73 rfl ?_
    refine s_i2l kx_13_74 ?_
    refine s_iload_n kx_13_75 rfl ?_
    refine s_i2l kx_13_76 ?_
    refine r_lsubR kx_13_77 (fun v16 v16a v16b => ?_)
    refine s_callS2 (s1 := 2) (s2 := 0) (as := [(1, v16)]) (rest := []) kx_13_78 kp_13_45 rfl kcl_14 rfl rfl (by decide) (m_14 (d := d) (worth := v16) hT hI) (kF (fun v17 v17p => ?_))
    exact s_iret kx_13_81 (Or.inl kq_13) ⟨_, rfl, rfl, trivial⟩
  · refine s_tsw (t := 64) kx_13_1 (by decide) (-7) hs1 (by decide) ?_
    refine s_iload_n kx_13_64 rfl ?_
    refine s_i2l kx_13_65 ?_
    refine s_iload_n kx_13_66 rfl ?_
    refine s_i2l kx_13_67 ?_
    refine r_laddR kx_13_68 (fun v18 v18a v18b => ?_)
    refine s_callS2 (s1 := 2) (s2 := 0) (as := [(1, v18)]) (rest := []) kx_13_69 kp_13_45 rfl kcl_14 rfl rfl (by decide) (m_14 (d := d) (worth := v18) hT hI) (kF (fun v19 v19p => ?_))
    exact s_iret kx_13_72 (Or.inl kq_13) ⟨_, rfl, rfl, trivial⟩
  · refine s_tswD (t := 177) kx_13_1 (by decide) hs1 (by decide) ?_
    refine s_iconst (v := 0) kx_13_177 (by decide) ?_
    exact s_iret kx_13_178 (Or.inl kq_13) ⟨_, rfl, rfl, trivial⟩
theorem kx_11_0 : x_code k_P 11 0 = some (.iconst 0, 1) := by decide +kernel
theorem kx_11_1 : x_code k_P 11 1 = some (.istore_n 2, 1) := by decide +kernel
theorem km_11_2 : 2 < x_maxL k_P 11 := by decide +kernel
theorem kx_11_2 : x_code k_P 11 2 = some (.iconst 0, 1) := by decide +kernel
theorem kx_11_3 : x_code k_P 11 3 = some (.istore_n 3, 1) := by decide +kernel
theorem km_11_3 : 3 < x_maxL k_P 11 := by decide +kernel
theorem kx_11_4 : x_code k_P 11 4 = some (.iload_n 3, 1) := by decide +kernel
theorem kx_11_5 : x_code k_P 11 5 = some (.aload_n 0, 1) := by decide +kernel
theorem kx_11_6 : x_code k_P 11 6 = some (.getfield 18, 3) := by decide +kernel
theorem kp_11_18 : x_pool k_P 11 18 = (1, 1, 2) := by decide +kernel
theorem kx_11_9 : x_code k_P 11 9 = some (.if_icmp .ge 200, 3) := by decide +kernel
theorem kx_11_209 : x_code k_P 11 209 = some (.iload_n 2, 1) := by decide +kernel
theorem kx_11_210 : x_code k_P 11 210 = some (.ifCond .le 24, 3) := by decide +kernel
theorem kx_11_234 : x_code k_P 11 234 = some (.iconst 0, 1) := by decide +kernel
theorem kx_11_235 : x_code k_P 11 235 = some (.ireturn, 1) := by decide +kernel
theorem kq_11 : x_retk k_P 11 = 1 := by decide +kernel
theorem kx_11_213 : x_code k_P 11 213 = some (.iconst 0, 1) := by decide +kernel
theorem kx_11_214 : x_code k_P 11 214 = some (.sipush 999, 3) := by decide +kernel
theorem kx_11_217 : x_code k_P 11 217 = some (.aload_n 0, 1) := by decide +kernel
theorem kx_11_218 : x_code k_P 11 218 = some (.getfield 9, 3) := by decide +kernel
theorem kp_11_9 : x_pool k_P 11 9 = (1, 1, 0) := by decide +kernel
theorem kf_1_0 : (x_cls k_P 1)[0]? = some 12 := by decide +kernel
theorem kx_11_221 : x_code k_P 11 221 = some (.iload_n 2, 1) := by decide +kernel
theorem kx_11_222 : x_code k_P 11 222 = some (.iconst 1, 1) := by decide +kernel
theorem kx_11_223 : x_code k_P 11 223 = some (.isub, 1) := by decide +kernel
theorem kx_11_224 : x_code k_P 11 224 = some (.iaload, 1) := by decide +kernel
theorem kx_11_225 : x_code k_P 11 225 = some (.invokestatic 36, 3) := by decide +kernel
theorem kp_11_36 : x_pool k_P 11 36 = (6, 299, 2) := by decide +kernel
theorem kx_11_228 : x_code k_P 11 228 = some (.invokestatic 42, 3) := by decide +kernel
theorem kp_11_42 : x_pool k_P 11 42 = (6, 297, 2) := by decide +kernel
theorem kx_11_231 : x_code k_P 11 231 = some (.goto 4, 3) := by decide +kernel
theorem kx_11_12 : x_code k_P 11 12 = some (.iload_n 3, 1) := by decide +kernel
theorem kx_11_13 : x_code k_P 11 13 = some (.aload_n 0, 1) := by decide +kernel
theorem kx_11_14 : x_code k_P 11 14 = some (.getfield 15, 3) := by decide +kernel
theorem kp_11_15 : x_pool k_P 11 15 = (1, 1, 1) := by decide +kernel
theorem kf_1_1 : (x_cls k_P 1)[1]? = some 2 := by decide +kernel
theorem kx_11_17 : x_code k_P 11 17 = some (.arraylength, 1) := by decide +kernel
theorem kx_11_18 : x_code k_P 11 18 = some (.if_icmp .ge 191, 3) := by decide +kernel
theorem kx_11_21 : x_code k_P 11 21 = some (.aload_n 0, 1) := by decide +kernel
theorem kx_11_22 : x_code k_P 11 22 = some (.getfield 15, 3) := by decide +kernel
theorem kx_11_25 : x_code k_P 11 25 = some (.iload_n 3, 1) := by decide +kernel
theorem kx_11_26 : x_code k_P 11 26 = some (.iaload, 1) := by decide +kernel
theorem kx_11_27 : x_code k_P 11 27 = some (.invokestatic 28, 3) := by decide +kernel
theorem kp_11_28 : x_pool k_P 11 28 = (6, 12, 1) := by decide +kernel
theorem kcl_12 : x_maxL k_P 12 ≤ 60 ∧ 1 ≤ x_maxL k_P 12 := by decide +kernel
theorem kx_11_30 : x_code k_P 11 30 = some (.istore 4, 2) := by decide +kernel
theorem km_11_4 : 4 < x_maxL k_P 11 := by decide +kernel
theorem kx_11_32 : x_code k_P 11 32 = some (.iload_n 2, 1) := by decide +kernel
theorem kx_11_33 : x_code k_P 11 33 = some (.iload 4, 2) := by decide +kernel
theorem kx_11_35 : x_code k_P 11 35 = some (.if_icmp .lt 15, 3) := by decide +kernel
theorem kx_11_50 : x_code k_P 11 50 = some (.iconst 0, 1) := by decide +kernel
theorem kx_11_51 : x_code k_P 11 51 = some (.ireturn, 1) := by decide +kernel
theorem kx_11_38 : x_code k_P 11 38 = some (.iload_n 2, 1) := by decide +kernel
theorem kx_11_39 : x_code k_P 11 39 = some (.iload 4, 2) := by decide +kernel
theorem kx_11_41 : x_code k_P 11 41 = some (.isub, 1) := by decide +kernel
theorem kx_11_42 : x_code k_P 11 42 = some (.aload_n 0, 1) := by decide +kernel
theorem kx_11_43 : x_code k_P 11 43 = some (.getfield 9, 3) := by decide +kernel
theorem kx_11_46 : x_code k_P 11 46 = some (.arraylength, 1) := by decide +kernel
theorem kx_11_47 : x_code k_P 11 47 = some (.if_icmp .lt 5, 3) := by decide +kernel
theorem kx_11_52 : x_code k_P 11 52 = some (.iload_n 2, 1) := by decide +kernel
theorem kx_11_53 : x_code k_P 11 53 = some (.iload 4, 2) := by decide +kernel
theorem kx_11_55 : x_code k_P 11 55 = some (.isub, 1) := by decide +kernel
theorem kx_11_56 : x_code k_P 11 56 = some (.istore_n 2, 1) := by decide +kernel
theorem kx_11_57 : x_code k_P 11 57 = some (.iload 4, 2) := by decide +kernel
theorem kx_11_59 : x_code k_P 11 59 = some (.ifCond .ne 40, 3) := by decide +kernel
theorem kx_11_99 : x_code k_P 11 99 = some (.iload 4, 2) := by decide +kernel
theorem kx_11_101 : x_code k_P 11 101 = some (.iconst 1, 1) := by decide +kernel
theorem kx_11_102 : x_code k_P 11 102 = some (.if_icmp .ne 26, 3) := by decide +kernel
theorem kx_11_128 : x_code k_P 11 128 = some (.iload 4, 2) := by decide +kernel
theorem kx_11_130 : x_code k_P 11 130 = some (.iconst 2, 1) := by decide +kernel
theorem kx_11_131 : x_code k_P 11 131 = some (.if_icmp .ne 35, 3) := by decide +kernel
theorem kx_11_166 : x_code k_P 11 166 = some (.aload_n 0, 1) := by decide +kernel
theorem kx_11_167 : x_code k_P 11 167 = some (.getfield 9, 3) := by decide +kernel
theorem kx_11_170 : x_code k_P 11 170 = some (.iload_n 2, 1) := by decide +kernel
theorem kx_11_171 : x_code k_P 11 171 = some (.aload_n 0, 1) := by decide +kernel
theorem kx_11_172 : x_code k_P 11 172 = some (.getfield 9, 3) := by decide +kernel
theorem kx_11_175 : x_code k_P 11 175 = some (.iload_n 2, 1) := by decide +kernel
theorem kx_11_176 : x_code k_P 11 176 = some (.iaload, 1) := by decide +kernel
theorem kx_11_177 : x_code k_P 11 177 = some (.ifCond .eq 14, 3) := by decide +kernel
theorem kx_11_191 : x_code k_P 11 191 = some (.aload_n 0, 1) := by decide +kernel
theorem kx_11_192 : x_code k_P 11 192 = some (.getfield 9, 3) := by decide +kernel
theorem kx_11_195 : x_code k_P 11 195 = some (.iload_n 2, 1) := by decide +kernel
theorem kx_11_196 : x_code k_P 11 196 = some (.iconst 2, 1) := by decide +kernel
theorem kx_11_197 : x_code k_P 11 197 = some (.iadd, 1) := by decide +kernel
theorem kx_11_198 : x_code k_P 11 198 = some (.iaload, 1) := by decide +kernel
theorem kx_11_199 : x_code k_P 11 199 = some (.iastore, 1) := by decide +kernel
theorem kx_11_200 : x_code k_P 11 200 = some (.iinc 2 1, 3) := by decide +kernel
theorem kx_11_203 : x_code k_P 11 203 = some (.iinc 3 1, 3) := by decide +kernel
theorem kx_11_206 : x_code k_P 11 206 = some (.goto (-202), 3) := by decide +kernel
theorem kx_11_180 : x_code k_P 11 180 = some (.aload_n 0, 1) := by decide +kernel
theorem kx_11_181 : x_code k_P 11 181 = some (.getfield 9, 3) := by decide +kernel
theorem kx_11_184 : x_code k_P 11 184 = some (.iload_n 2, 1) := by decide +kernel
theorem kx_11_185 : x_code k_P 11 185 = some (.iconst 1, 1) := by decide +kernel
theorem kx_11_186 : x_code k_P 11 186 = some (.iadd, 1) := by decide +kernel
theorem kx_11_187 : x_code k_P 11 187 = some (.iaload, 1) := by decide +kernel
theorem kx_11_188 : x_code k_P 11 188 = some (.goto 11, 3) := by decide +kernel
theorem kx_11_134 : x_code k_P 11 134 = some (.aload_n 0, 1) := by decide +kernel
theorem kx_11_135 : x_code k_P 11 135 = some (.getfield 9, 3) := by decide +kernel
theorem kx_11_138 : x_code k_P 11 138 = some (.iload_n 2, 1) := by decide +kernel
theorem kx_11_139 : x_code k_P 11 139 = some (.aload_n 0, 1) := by decide +kernel
theorem kx_11_140 : x_code k_P 11 140 = some (.getfield 15, 3) := by decide +kernel
theorem kx_11_143 : x_code k_P 11 143 = some (.iload_n 3, 1) := by decide +kernel
theorem kx_11_144 : x_code k_P 11 144 = some (.iaload, 1) := by decide +kernel
theorem kx_11_145 : x_code k_P 11 145 = some (.aload_n 0, 1) := by decide +kernel
theorem kx_11_146 : x_code k_P 11 146 = some (.getfield 9, 3) := by decide +kernel
theorem kx_11_149 : x_code k_P 11 149 = some (.iload_n 2, 1) := by decide +kernel
theorem kx_11_150 : x_code k_P 11 150 = some (.iaload, 1) := by decide +kernel
theorem kx_11_151 : x_code k_P 11 151 = some (.aload_n 0, 1) := by decide +kernel
theorem kx_11_152 : x_code k_P 11 152 = some (.getfield 9, 3) := by decide +kernel
theorem kx_11_155 : x_code k_P 11 155 = some (.iload_n 2, 1) := by decide +kernel
theorem kx_11_156 : x_code k_P 11 156 = some (.iconst 1, 1) := by decide +kernel
theorem kx_11_157 : x_code k_P 11 157 = some (.iadd, 1) := by decide +kernel
theorem kx_11_158 : x_code k_P 11 158 = some (.iaload, 1) := by decide +kernel
theorem kx_11_159 : x_code k_P 11 159 = some (.invokestatic 32, 3) := by decide +kernel
theorem kp_11_32 : x_pool k_P 11 32 = (6, 13, 3) := by decide +kernel
theorem kcl_13 : x_maxL k_P 13 ≤ 60 ∧ 3 ≤ x_maxL k_P 13 := by decide +kernel
theorem kx_11_162 : x_code k_P 11 162 = some (.iastore, 1) := by decide +kernel
theorem kx_11_163 : x_code k_P 11 163 = some (.goto 37, 3) := by decide +kernel
theorem kx_11_105 : x_code k_P 11 105 = some (.aload_n 0, 1) := by decide +kernel
theorem kx_11_106 : x_code k_P 11 106 = some (.getfield 9, 3) := by decide +kernel
theorem kx_11_109 : x_code k_P 11 109 = some (.iload_n 2, 1) := by decide +kernel
theorem kx_11_110 : x_code k_P 11 110 = some (.aload_n 0, 1) := by decide +kernel
theorem kx_11_111 : x_code k_P 11 111 = some (.getfield 9, 3) := by decide +kernel
theorem kx_11_114 : x_code k_P 11 114 = some (.iload_n 2, 1) := by decide +kernel
theorem kx_11_115 : x_code k_P 11 115 = some (.iaload, 1) := by decide +kernel
theorem kx_11_116 : x_code k_P 11 116 = some (.ifCond .ne 7, 3) := by decide +kernel
theorem kx_11_123 : x_code k_P 11 123 = some (.iconst 0, 1) := by decide +kernel
theorem kx_11_124 : x_code k_P 11 124 = some (.iastore, 1) := by decide +kernel
theorem kx_11_125 : x_code k_P 11 125 = some (.goto 75, 3) := by decide +kernel
theorem kx_11_119 : x_code k_P 11 119 = some (.iconst 1, 1) := by decide +kernel
theorem kx_11_120 : x_code k_P 11 120 = some (.goto 4, 3) := by decide +kernel
theorem kx_11_62 : x_code k_P 11 62 = some (.aload_n 0, 1) := by decide +kernel
theorem kx_11_63 : x_code k_P 11 63 = some (.getfield 9, 3) := by decide +kernel
theorem kx_11_66 : x_code k_P 11 66 = some (.iload_n 2, 1) := by decide +kernel
theorem kx_11_67 : x_code k_P 11 67 = some (.aload_n 0, 1) := by decide +kernel
theorem kx_11_68 : x_code k_P 11 68 = some (.getfield 15, 3) := by decide +kernel
theorem kx_11_71 : x_code k_P 11 71 = some (.iload_n 3, 1) := by decide +kernel
theorem kx_11_72 : x_code k_P 11 72 = some (.iaload, 1) := by decide +kernel
theorem kx_11_73 : x_code k_P 11 73 = some (.ifCond .lt 12, 3) := by decide +kernel
theorem kx_11_85 : x_code k_P 11 85 = some (.aload_n 1, 1) := by decide +kernel
theorem kx_11_86 : x_code k_P 11 86 = some (.iconst (-1), 1) := by decide +kernel
theorem kx_11_87 : x_code k_P 11 87 = some (.aload_n 0, 1) := by decide +kernel
theorem kx_11_88 : x_code k_P 11 88 = some (.getfield 15, 3) := by decide +kernel
theorem kx_11_91 : x_code k_P 11 91 = some (.iload_n 3, 1) := by decide +kernel
theorem kx_11_92 : x_code k_P 11 92 = some (.iaload, 1) := by decide +kernel
theorem kx_11_93 : x_code k_P 11 93 = some (.isub, 1) := by decide +kernel
theorem kx_11_94 : x_code k_P 11 94 = some (.iaload, 1) := by decide +kernel
theorem kx_11_95 : x_code k_P 11 95 = some (.iastore, 1) := by decide +kernel
theorem kx_11_96 : x_code k_P 11 96 = some (.goto 104, 3) := by decide +kernel
theorem kx_11_76 : x_code k_P 11 76 = some (.aload_n 0, 1) := by decide +kernel
theorem kx_11_77 : x_code k_P 11 77 = some (.getfield 15, 3) := by decide +kernel
theorem kx_11_80 : x_code k_P 11 80 = some (.iload_n 3, 1) := by decide +kernel
theorem kx_11_81 : x_code k_P 11 81 = some (.iaload, 1) := by decide +kernel
theorem kx_11_82 : x_code k_P 11 82 = some (.goto 13, 3) := by decide +kernel
def fS_11_l4 : List (Nat × Nat) := [(20, 99999), (23, 99999), (37, 99999), (40, 99999)]
def fS_11_m : List (Nat × Nat) := [(20, 99999), (23, 99999), (37, 99999), (40, 99999)]
theorem m_11 {xs : Nat → Int} {Ln d : Nat} {T : List cK} {M : cM} (hT : TT T) (hI : Rng M) {f : Nat} (hf : fF f) (hN : Fm T M) : cC k_P xs Ln (d + 3) 11 [rf f, rf 43] (T, M) (qW T M fS_11_m 0 (fun v M1 => 0 ≤ v ∧ v ≤ 999)) := by
  show cP k_P xs Ln (d + 3) 11 0 [(0, rf f), (1, rf 43)] [] (T, M) _
  have hFm : Fr fS_11_m M M := Fr.refl
  obtain ⟨s, ns, hs, hsA, hns, hns2⟩ := hN f hf
  refine s_iconst (v := 0) kx_11_0 (by decide) ?_
  refine s_istore_n kx_11_1 km_11_2 rfl ?_
  refine s_iconst (v := 0) kx_11_2 (by decide) ?_
  refine s_istore_n kx_11_3 km_11_3 rfl ?_
  have key4 : ∀ n5 : Nat, ∀ (x2_1 x3_2 : Int), ∀ M3 : cM, Rng M3 → Fr fS_11_m M M3 → Fr fS_11_l4 M M3 → (0 ≤ x2_1) → (x2_1 ≤ 64) → (0 ≤ x3_2) → (2147483647 - x3_2).toNat < n5 → cP k_P xs Ln (d + 3) 11 4 [(0, rf f), (1, rf 43), (2, (0, x2_1)), (3, (0, x3_2))] [] (T, M3) (qW T M fS_11_m 0 (fun v M1 => 0 ≤ v ∧ v ≤ 999)) := by
    intro n5
    induction n5 with
    | zero => intro x2_1 x3_2 M3 hI3 hFm3 fl3 i6 i7 i8 hm9; exact absurd hm9 (Nat.not_lt_zero _)
    | succ n5 ih10 =>
      intro x2_1 x3_2 M3 hI3 hFm3 fl3 i6 i7 i8 hm9
      refine s_iload_n kx_11_4 rfl ?_
      refine s_aload_n kx_11_5 rfl ?_
      refine r_getI (k := f) (f := 2) kx_11_6 kp_11_18 (tkf_0 hT hf) kf_1_2 (fun _ => rfl) (rgf_0_2 hI3 hf) (fun v11 v11e v11a v11b => ?_)
      have v11z : M f 2 = v11 := ((fl3 f 2 (by rcases hf with rfl | rfl | rfl | rfl <;> rfl))).symm.trans v11e
      refine s_icmp_ge (t := 209) kx_11_9 (by decide) (fun hc12 => ?_) (fun hc12 => ?_)
      · refine s_iload_n kx_11_209 rfl ?_
        refine s_if_le (t := 234) kx_11_210 (by decide) (fun hc13 => ?_) (fun hc13 => ?_)
        · refine s_iconst (v := 0) kx_11_234 (by decide) ?_
          exact s_iret kx_11_235 (Or.inl kq_11) ⟨_, _, rfl, rfl, hI3, hFm3, (by omega)⟩
        · refine s_iconst (v := 0) kx_11_213 (by decide) ?_
          refine s_sipush (v := 999) kx_11_214 (by decide) ?_
          refine s_aload_n kx_11_217 rfl ?_
          refine r_getR (k := f) (f := 0) (k2 := (f + 1)) kx_11_218 kp_11_9 (tkf_0 hT hf) kf_1_0 (by decide) (rqf_0 hI3 hf) ?_
          refine s_iload_n kx_11_221 rfl ?_
          refine s_iconst (v := 1) kx_11_222 (by decide) ?_
          refine r_sub kx_11_223 ⟨by omega, by omega⟩ ?_
          refine r_aldU (k := (f + 1)) kx_11_224 (tkf_1 hT hf) ⟨by omega, by omega⟩ (fun v14 v14e => ?_)
          refine s_callS2 (s1 := 2) (s2 := 1) (as := [(0, v14), (0, 999)]) (rest := [(0, 0)]) kx_11_225 kp_11_36 rfl kcl_299 rfl rfl (by decide) (m_299 (d := d + 2) (a := 999) (b := v14) hT hI3) (kF (fun v15 v15p => ?_))
          refine s_callS2 (s1 := 2) (s2 := 0) (as := [(0, v15), (0, 0)]) (rest := []) kx_11_228 kp_11_42 rfl kcl_297 rfl rfl (by decide) (m_297 (d := d + 2) (a := 0) (b := v15) hT hI3) (kF (fun v16 v16p => ?_))
          refine s_goto (t := 235) kx_11_231 (by decide) ?_
          exact s_iret kx_11_235 (Or.inl kq_11) ⟨_, _, rfl, rfl, hI3, hFm3, (by omega)⟩
      · refine s_iload_n kx_11_12 rfl ?_
        refine s_aload_n kx_11_13 rfl ?_
        refine r_getR (k := f) (f := 1) (k2 := s) kx_11_14 kp_11_15 (tkf_0 hT hf) kf_1_1 (by decide) ((fl3 f 1 (by rcases hf with rfl | rfl | rfl | rfl <;> rfl)).trans hs) ?_
        refine r_alen (k := s) kx_11_17 hsA ⟨by decide, by omega⟩ ?_
        refine s_icmp_ge (t := 209) kx_11_18 (by decide) (fun hc17 => ?_) (fun hc17 => ?_)
        · refine s_iload_n kx_11_209 rfl ?_
          refine s_if_le (t := 234) kx_11_210 (by decide) (fun hc18 => ?_) (fun hc18 => ?_)
          · refine s_iconst (v := 0) kx_11_234 (by decide) ?_
            exact s_iret kx_11_235 (Or.inl kq_11) ⟨_, _, rfl, rfl, hI3, hFm3, (by omega)⟩
          · refine s_iconst (v := 0) kx_11_213 (by decide) ?_
            refine s_sipush (v := 999) kx_11_214 (by decide) ?_
            refine s_aload_n kx_11_217 rfl ?_
            refine r_getR (k := f) (f := 0) (k2 := (f + 1)) kx_11_218 kp_11_9 (tkf_0 hT hf) kf_1_0 (by decide) (rqf_0 hI3 hf) ?_
            refine s_iload_n kx_11_221 rfl ?_
            refine s_iconst (v := 1) kx_11_222 (by decide) ?_
            refine r_sub kx_11_223 ⟨by omega, by omega⟩ ?_
            refine r_aldU (k := (f + 1)) kx_11_224 (tkf_1 hT hf) ⟨by omega, by omega⟩ (fun v19 v19e => ?_)
            refine s_callS2 (s1 := 2) (s2 := 1) (as := [(0, v19), (0, 999)]) (rest := [(0, 0)]) kx_11_225 kp_11_36 rfl kcl_299 rfl rfl (by decide) (m_299 (d := d + 2) (a := 999) (b := v19) hT hI3) (kF (fun v20 v20p => ?_))
            refine s_callS2 (s1 := 2) (s2 := 0) (as := [(0, v20), (0, 0)]) (rest := []) kx_11_228 kp_11_42 rfl kcl_297 rfl rfl (by decide) (m_297 (d := d + 2) (a := 0) (b := v20) hT hI3) (kF (fun v21 v21p => ?_))
            refine s_goto (t := 235) kx_11_231 (by decide) ?_
            exact s_iret kx_11_235 (Or.inl kq_11) ⟨_, _, rfl, rfl, hI3, hFm3, (by omega)⟩
        · refine s_aload_n kx_11_21 rfl ?_
          refine r_getR (k := f) (f := 1) (k2 := s) kx_11_22 kp_11_15 (tkf_0 hT hf) kf_1_1 (by decide) ((fl3 f 1 (by rcases hf with rfl | rfl | rfl | rfl <;> rfl)).trans hs) ?_
          refine s_iload_n kx_11_25 rfl ?_
          refine r_aldU (k := s) kx_11_26 hsA ⟨by omega, by omega⟩ (fun v22 v22e => ?_)
          refine s_callS2 (s1 := 1) (s2 := 0) (as := [(0, v22)]) (rest := []) kx_11_27 kp_11_28 rfl kcl_12 rfl rfl (by decide) (m_12 (d := d + 2) (step := v22) hT hI3) (kF (fun v23 v23p => ?_))
          refine s_istore kx_11_30 km_11_4 rfl ?_
          refine s_iload_n kx_11_32 rfl ?_
          refine s_iload kx_11_33 rfl ?_
          refine s_icmp_lt (t := 50) kx_11_35 (by decide) (fun hc24 => ?_) (fun hc24 => ?_)
          · refine s_iconst (v := 0) kx_11_50 (by decide) ?_
            exact s_iret kx_11_51 (Or.inl kq_11) ⟨_, _, rfl, rfl, hI3, hFm3, (by omega)⟩
          · refine s_iload_n kx_11_38 rfl ?_
            refine s_iload kx_11_39 rfl ?_
            refine r_sub kx_11_41 ⟨by omega, by omega⟩ ?_
            refine s_aload_n kx_11_42 rfl ?_
            refine r_getR (k := f) (f := 0) (k2 := (f + 1)) kx_11_43 kp_11_9 (tkf_0 hT hf) kf_1_0 (by decide) (rqf_0 hI3 hf) ?_
            refine r_alen (k := (f + 1)) kx_11_46 (tkf_1 hT hf) ⟨by decide, by decide⟩ ?_
            refine s_icmp_lt (t := 52) kx_11_47 (by decide) (fun hc25 => ?_) (fun hc25 => ?_)
            · refine s_iload_n kx_11_52 rfl ?_
              refine s_iload kx_11_53 rfl ?_
              refine r_sub kx_11_55 ⟨by omega, by omega⟩ ?_
              refine s_istore_n kx_11_56 km_11_2 rfl ?_
              refine s_iload kx_11_57 rfl ?_
              refine s_if_ne (t := 99) kx_11_59 (by decide) (fun hc26 => ?_) (fun hc26 => ?_)
              · refine s_iload kx_11_99 rfl ?_
                refine s_iconst (v := 1) kx_11_101 (by decide) ?_
                refine s_icmp_ne (t := 128) kx_11_102 (by decide) (fun hc27 => ?_) (fun hc27 => ?_)
                · refine s_iload kx_11_128 rfl ?_
                  refine s_iconst (v := 2) kx_11_130 (by decide) ?_
                  refine s_icmp_ne (t := 166) kx_11_131 (by decide) (fun hc28 => ?_) (fun hc28 => ?_)
                  · refine s_aload_n kx_11_166 rfl ?_
                    refine r_getR (k := f) (f := 0) (k2 := (f + 1)) kx_11_167 kp_11_9 (tkf_0 hT hf) kf_1_0 (by decide) (rqf_0 hI3 hf) ?_
                    refine s_iload_n kx_11_170 rfl ?_
                    refine s_aload_n kx_11_171 rfl ?_
                    refine r_getR (k := f) (f := 0) (k2 := (f + 1)) kx_11_172 kp_11_9 (tkf_0 hT hf) kf_1_0 (by decide) (rqf_0 hI3 hf) ?_
                    refine s_iload_n kx_11_175 rfl ?_
                    refine r_aldU (k := (f + 1)) kx_11_176 (tkf_1 hT hf) ⟨by omega, by omega⟩ (fun v29 v29e => ?_)
                    refine s_if_eq (t := 191) kx_11_177 (by decide) (fun hc30 => ?_) (fun hc30 => ?_)
                    · refine s_aload_n kx_11_191 rfl ?_
                      refine r_getR (k := f) (f := 0) (k2 := (f + 1)) kx_11_192 kp_11_9 (tkf_0 hT hf) kf_1_0 (by decide) (rqf_0 hI3 hf) ?_
                      refine s_iload_n kx_11_195 rfl ?_
                      refine s_iconst (v := 2) kx_11_196 (by decide) ?_
                      refine r_add kx_11_197 ⟨by omega, by omega⟩ ?_
                      refine r_aldU (k := (f + 1)) kx_11_198 (tkf_1 hT hf) ⟨by omega, by omega⟩ (fun v31 v31e => ?_)
                      refine r_ast (k := (f + 1)) kx_11_199 (tkf_1 hT hf) ⟨by omega, by omega⟩ hI3 (ruf_1 hf) (fun M32 hI32 u32 => ?_)
                      have hFm32 := hFm3.up u32 (by rcases hf with rfl | rfl | rfl | rfl <;> rfl)
                      have hFl432 := fl3.up u32 (by rcases hf with rfl | rfl | rfl | rfl <;> rfl)
                      refine r_iinc kx_11_200 rfl km_11_2 (by decide) ⟨by omega, by omega⟩ rfl ?_
                      refine r_iinc kx_11_203 rfl km_11_3 (by decide) ⟨by omega, by omega⟩ rfl ?_
                      refine s_goto (t := 4) kx_11_206 (by decide) ?_
                      exact cP.wk (lS1 rfl (lS1 rfl (lS1 rfl (lS1 rfl lS0)))) (ih10 ((x2_1 - v23) + 1) (x3_2 + 1) M32 hI32 hFm32 hFl432 (by omega) (by omega) (by omega) (by omega))
                    · refine s_aload_n kx_11_180 rfl ?_
                      refine r_getR (k := f) (f := 0) (k2 := (f + 1)) kx_11_181 kp_11_9 (tkf_0 hT hf) kf_1_0 (by decide) (rqf_0 hI3 hf) ?_
                      refine s_iload_n kx_11_184 rfl ?_
                      refine s_iconst (v := 1) kx_11_185 (by decide) ?_
                      refine r_add kx_11_186 ⟨by omega, by omega⟩ ?_
                      refine r_aldU (k := (f + 1)) kx_11_187 (tkf_1 hT hf) ⟨by omega, by omega⟩ (fun v33 v33e => ?_)
                      refine s_goto (t := 199) kx_11_188 (by decide) ?_
                      refine r_ast (k := (f + 1)) kx_11_199 (tkf_1 hT hf) ⟨by omega, by omega⟩ hI3 (ruf_1 hf) (fun M34 hI34 u34 => ?_)
                      have hFm34 := hFm3.up u34 (by rcases hf with rfl | rfl | rfl | rfl <;> rfl)
                      have hFl434 := fl3.up u34 (by rcases hf with rfl | rfl | rfl | rfl <;> rfl)
                      refine r_iinc kx_11_200 rfl km_11_2 (by decide) ⟨by omega, by omega⟩ rfl ?_
                      refine r_iinc kx_11_203 rfl km_11_3 (by decide) ⟨by omega, by omega⟩ rfl ?_
                      refine s_goto (t := 4) kx_11_206 (by decide) ?_
                      exact cP.wk (lS1 rfl (lS1 rfl (lS1 rfl (lS1 rfl lS0)))) (ih10 ((x2_1 - v23) + 1) (x3_2 + 1) M34 hI34 hFm34 hFl434 (by omega) (by omega) (by omega) (by omega))
                  · refine s_aload_n kx_11_134 rfl ?_
                    refine r_getR (k := f) (f := 0) (k2 := (f + 1)) kx_11_135 kp_11_9 (tkf_0 hT hf) kf_1_0 (by decide) (rqf_0 hI3 hf) ?_
                    refine s_iload_n kx_11_138 rfl ?_
                    refine s_aload_n kx_11_139 rfl ?_
                    refine r_getR (k := f) (f := 1) (k2 := s) kx_11_140 kp_11_15 (tkf_0 hT hf) kf_1_1 (by decide) ((fl3 f 1 (by rcases hf with rfl | rfl | rfl | rfl <;> rfl)).trans hs) ?_
                    refine s_iload_n kx_11_143 rfl ?_
                    refine r_aldK (k := s) kx_11_144 hsA ⟨by omega, by omega⟩ v22e ?_
                    refine s_aload_n kx_11_145 rfl ?_
                    refine r_getR (k := f) (f := 0) (k2 := (f + 1)) kx_11_146 kp_11_9 (tkf_0 hT hf) kf_1_0 (by decide) (rqf_0 hI3 hf) ?_
                    refine s_iload_n kx_11_149 rfl ?_
                    refine r_aldU (k := (f + 1)) kx_11_150 (tkf_1 hT hf) ⟨by omega, by omega⟩ (fun v35 v35e => ?_)
                    refine s_aload_n kx_11_151 rfl ?_
                    refine r_getR (k := f) (f := 0) (k2 := (f + 1)) kx_11_152 kp_11_9 (tkf_0 hT hf) kf_1_0 (by decide) (rqf_0 hI3 hf) ?_
                    refine s_iload_n kx_11_155 rfl ?_
                    refine s_iconst (v := 1) kx_11_156 (by decide) ?_
                    refine r_add kx_11_157 ⟨by omega, by omega⟩ ?_
                    refine r_aldU (k := (f + 1)) kx_11_158 (tkf_1 hT hf) ⟨by omega, by omega⟩ (fun v36 v36e => ?_)
                    refine s_callS2 (s1 := 3) (s2 := 2) (as := [(0, v36), (0, v35), (0, v22)]) (rest := [(0, (x2_1 - v23)), rf (f + 1)]) kx_11_159 kp_11_32 rfl kcl_13 rfl rfl (by decide) (m_13 (d := d) (step := v22) (a := v35) (b := v36) hT hI3) (kF (fun v37 v37p => ?_))
                    refine r_ast (k := (f + 1)) kx_11_162 (tkf_1 hT hf) ⟨by omega, by omega⟩ hI3 (ruf_1 hf) (fun M38 hI38 u38 => ?_)
                    have hFm38 := hFm3.up u38 (by rcases hf with rfl | rfl | rfl | rfl <;> rfl)
                    have hFl438 := fl3.up u38 (by rcases hf with rfl | rfl | rfl | rfl <;> rfl)
                    refine s_goto (t := 200) kx_11_163 (by decide) ?_
                    refine r_iinc kx_11_200 rfl km_11_2 (by decide) ⟨by omega, by omega⟩ rfl ?_
                    refine r_iinc kx_11_203 rfl km_11_3 (by decide) ⟨by omega, by omega⟩ rfl ?_
                    refine s_goto (t := 4) kx_11_206 (by decide) ?_
                    exact cP.wk (lS1 rfl (lS1 rfl (lS1 rfl (lS1 rfl lS0)))) (ih10 ((x2_1 - v23) + 1) (x3_2 + 1) M38 hI38 hFm38 hFl438 (by omega) (by omega) (by omega) (by omega))
                · refine s_aload_n kx_11_105 rfl ?_
                  refine r_getR (k := f) (f := 0) (k2 := (f + 1)) kx_11_106 kp_11_9 (tkf_0 hT hf) kf_1_0 (by decide) (rqf_0 hI3 hf) ?_
                  refine s_iload_n kx_11_109 rfl ?_
                  refine s_aload_n kx_11_110 rfl ?_
                  refine r_getR (k := f) (f := 0) (k2 := (f + 1)) kx_11_111 kp_11_9 (tkf_0 hT hf) kf_1_0 (by decide) (rqf_0 hI3 hf) ?_
                  refine s_iload_n kx_11_114 rfl ?_
                  refine r_aldU (k := (f + 1)) kx_11_115 (tkf_1 hT hf) ⟨by omega, by omega⟩ (fun v39 v39e => ?_)
                  refine s_if_ne (t := 123) kx_11_116 (by decide) (fun hc40 => ?_) (fun hc40 => ?_)
                  · refine s_iconst (v := 0) kx_11_123 (by decide) ?_
                    refine r_ast (k := (f + 1)) kx_11_124 (tkf_1 hT hf) ⟨by omega, by omega⟩ hI3 (ruf_1 hf) (fun M41 hI41 u41 => ?_)
                    have hFm41 := hFm3.up u41 (by rcases hf with rfl | rfl | rfl | rfl <;> rfl)
                    have hFl441 := fl3.up u41 (by rcases hf with rfl | rfl | rfl | rfl <;> rfl)
                    refine s_goto (t := 200) kx_11_125 (by decide) ?_
                    refine r_iinc kx_11_200 rfl km_11_2 (by decide) ⟨by omega, by omega⟩ rfl ?_
                    refine r_iinc kx_11_203 rfl km_11_3 (by decide) ⟨by omega, by omega⟩ rfl ?_
                    refine s_goto (t := 4) kx_11_206 (by decide) ?_
                    exact cP.wk (lS1 rfl (lS1 rfl (lS1 rfl (lS1 rfl lS0)))) (ih10 ((x2_1 - v23) + 1) (x3_2 + 1) M41 hI41 hFm41 hFl441 (by omega) (by omega) (by omega) (by omega))
                  · refine s_iconst (v := 1) kx_11_119 (by decide) ?_
                    refine s_goto (t := 124) kx_11_120 (by decide) ?_
                    refine r_ast (k := (f + 1)) kx_11_124 (tkf_1 hT hf) ⟨by omega, by omega⟩ hI3 (ruf_1 hf) (fun M42 hI42 u42 => ?_)
                    have hFm42 := hFm3.up u42 (by rcases hf with rfl | rfl | rfl | rfl <;> rfl)
                    have hFl442 := fl3.up u42 (by rcases hf with rfl | rfl | rfl | rfl <;> rfl)
                    refine s_goto (t := 200) kx_11_125 (by decide) ?_
                    refine r_iinc kx_11_200 rfl km_11_2 (by decide) ⟨by omega, by omega⟩ rfl ?_
                    refine r_iinc kx_11_203 rfl km_11_3 (by decide) ⟨by omega, by omega⟩ rfl ?_
                    refine s_goto (t := 4) kx_11_206 (by decide) ?_
                    exact cP.wk (lS1 rfl (lS1 rfl (lS1 rfl (lS1 rfl lS0)))) (ih10 ((x2_1 - v23) + 1) (x3_2 + 1) M42 hI42 hFm42 hFl442 (by omega) (by omega) (by omega) (by omega))
              · refine s_aload_n kx_11_62 rfl ?_
                refine r_getR (k := f) (f := 0) (k2 := (f + 1)) kx_11_63 kp_11_9 (tkf_0 hT hf) kf_1_0 (by decide) (rqf_0 hI3 hf) ?_
                refine s_iload_n kx_11_66 rfl ?_
                refine s_aload_n kx_11_67 rfl ?_
                refine r_getR (k := f) (f := 1) (k2 := s) kx_11_68 kp_11_15 (tkf_0 hT hf) kf_1_1 (by decide) ((fl3 f 1 (by rcases hf with rfl | rfl | rfl | rfl <;> rfl)).trans hs) ?_
                refine s_iload_n kx_11_71 rfl ?_
                refine r_aldK (k := s) kx_11_72 hsA ⟨by omega, by omega⟩ v22e ?_
                refine s_if_lt (t := 85) kx_11_73 (by decide) (fun hc43 => ?_) (fun hc43 => ?_)
                · refine s_aload_n kx_11_85 rfl ?_
                  refine s_iconst (v := (-1)) kx_11_86 (by decide) ?_
                  refine s_aload_n kx_11_87 rfl ?_
                  refine r_getR (k := f) (f := 1) (k2 := s) kx_11_88 kp_11_15 (tkf_0 hT hf) kf_1_1 (by decide) ((fl3 f 1 (by rcases hf with rfl | rfl | rfl | rfl <;> rfl)).trans hs) ?_
                  refine s_iload_n kx_11_91 rfl ?_
                  refine r_aldK (k := s) kx_11_92 hsA ⟨by omega, by omega⟩ v22e ?_
                  refine r_sub kx_11_93 ⟨by omega, by omega⟩ ?_
                  refine r_aldU (k := 43) kx_11_94 (tk_43 hT) ⟨by omega, by omega⟩ (fun v44 v44e => ?_)
                  refine r_ast (k := (f + 1)) kx_11_95 (tkf_1 hT hf) ⟨by omega, by omega⟩ hI3 (ruf_1 hf) (fun M45 hI45 u45 => ?_)
                  have hFm45 := hFm3.up u45 (by rcases hf with rfl | rfl | rfl | rfl <;> rfl)
                  have hFl445 := fl3.up u45 (by rcases hf with rfl | rfl | rfl | rfl <;> rfl)
                  refine s_goto (t := 200) kx_11_96 (by decide) ?_
                  refine r_iinc kx_11_200 rfl km_11_2 (by decide) ⟨by omega, by omega⟩ rfl ?_
                  refine r_iinc kx_11_203 rfl km_11_3 (by decide) ⟨by omega, by omega⟩ rfl ?_
                  refine s_goto (t := 4) kx_11_206 (by decide) ?_
                  exact cP.wk (lS1 rfl (lS1 rfl (lS1 rfl (lS1 rfl lS0)))) (ih10 ((x2_1 - v23) + 1) (x3_2 + 1) M45 hI45 hFm45 hFl445 (by omega) (by omega) (by omega) (by omega))
                · refine s_aload_n kx_11_76 rfl ?_
                  refine r_getR (k := f) (f := 1) (k2 := s) kx_11_77 kp_11_15 (tkf_0 hT hf) kf_1_1 (by decide) ((fl3 f 1 (by rcases hf with rfl | rfl | rfl | rfl <;> rfl)).trans hs) ?_
                  refine s_iload_n kx_11_80 rfl ?_
                  refine r_aldK (k := s) kx_11_81 hsA ⟨by omega, by omega⟩ v22e ?_
                  refine s_goto (t := 95) kx_11_82 (by decide) ?_
                  refine r_ast (k := (f + 1)) kx_11_95 (tkf_1 hT hf) ⟨by omega, by omega⟩ hI3 (ruf_1 hf) (fun M46 hI46 u46 => ?_)
                  have hFm46 := hFm3.up u46 (by rcases hf with rfl | rfl | rfl | rfl <;> rfl)
                  have hFl446 := fl3.up u46 (by rcases hf with rfl | rfl | rfl | rfl <;> rfl)
                  refine s_goto (t := 200) kx_11_96 (by decide) ?_
                  refine r_iinc kx_11_200 rfl km_11_2 (by decide) ⟨by omega, by omega⟩ rfl ?_
                  refine r_iinc kx_11_203 rfl km_11_3 (by decide) ⟨by omega, by omega⟩ rfl ?_
                  refine s_goto (t := 4) kx_11_206 (by decide) ?_
                  exact cP.wk (lS1 rfl (lS1 rfl (lS1 rfl (lS1 rfl lS0)))) (ih10 ((x2_1 - v23) + 1) (x3_2 + 1) M46 hI46 hFm46 hFl446 (by omega) (by omega) (by omega) (by omega))
            · refine s_iconst (v := 0) kx_11_50 (by decide) ?_
              exact s_iret kx_11_51 (Or.inl kq_11) ⟨_, _, rfl, rfl, hI3, hFm3, (by omega)⟩
  exact cP.wk (lS1 rfl (lS1 rfl (lS1 rfl (lS1 rfl lS0)))) (key4 _ 0 0 M hI hFm Fr.refl (by omega) (by omega) (by omega) (Nat.lt_succ_self _))
