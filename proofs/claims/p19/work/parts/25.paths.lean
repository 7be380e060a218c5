theorem kx_16_0 : x_code k_P 16 0 = some (.aload_n 0, 1) := by decide +kernel
theorem kx_16_1 : x_code k_P 16 1 = some (.aload_n 0, 1) := by decide +kernel
theorem kx_16_2 : x_code k_P 16 2 = some (.getfield 17, 3) := by decide +kernel
theorem kp_16_17 : x_pool k_P 16 17 = (1, 2, 1) := by decide +kernel
theorem kf_2_1 : (x_cls k_P 2)[1]? = some 0 := by decide +kernel
theorem kx_16_5 : x_code k_P 16 5 = some (.iconst 1, 1) := by decide +kernel
theorem kx_16_6 : x_code k_P 16 6 = some (.iadd, 1) := by decide +kernel
theorem kx_16_7 : x_code k_P 16 7 = some (.bipush 20, 2) := by decide +kernel
theorem kx_16_9 : x_code k_P 16 9 = some (.irem, 1) := by decide +kernel
theorem kx_16_10 : x_code k_P 16 10 = some (.putfield 17, 3) := by decide +kernel
theorem kx_16_13 : x_code k_P 16 13 = some (.aload_n 1, 1) := by decide +kernel
theorem kx_16_14 : x_code k_P 16 14 = some (.iconst 0, 1) := by decide +kernel
theorem kx_16_15 : x_code k_P 16 15 = some (.aload_n 0, 1) := by decide +kernel
theorem kx_16_16 : x_code k_P 16 16 = some (.getfield 11, 3) := by decide +kernel
theorem kp_16_11 : x_pool k_P 16 11 = (1, 2, 0) := by decide +kernel
theorem kf_2_0 : (x_cls k_P 2)[0]? = some 12 := by decide +kernel
theorem kx_16_19 : x_code k_P 16 19 = some (.aload_n 0, 1) := by decide +kernel
theorem kx_16_20 : x_code k_P 16 20 = some (.getfield 17, 3) := by decide +kernel
theorem kx_16_23 : x_code k_P 16 23 = some (.bipush 81, 2) := by decide +kernel
theorem kx_16_25 : x_code k_P 16 25 = some (.imul, 1) := by decide +kernel
theorem kx_16_26 : x_code k_P 16 26 = some (.bipush 81, 2) := by decide +kernel
theorem kx_16_28 : x_code k_P 16 28 = some (.invokestatic 24, 3) := by decide +kernel
theorem kp_16_24 : x_pool k_P 16 24 = (10, 0, 0) := by decide +kernel
theorem kx_16_31 : x_code k_P 16 31 = some (.aload_n 0, 1) := by decide +kernel
theorem kx_16_32 : x_code k_P 16 32 = some (.bipush 20, 2) := by decide +kernel
theorem kx_16_34 : x_code k_P 16 34 = some (.aload_n 0, 1) := by decide +kernel
theorem kx_16_35 : x_code k_P 16 35 = some (.getfield 21, 3) := by decide +kernel
theorem kp_16_21 : x_pool k_P 16 21 = (1, 2, 2) := by decide +kernel
theorem kf_2_2 : (x_cls k_P 2)[2]? = some 0 := by decide +kernel
theorem kx_16_38 : x_code k_P 16 38 = some (.iconst 1, 1) := by decide +kernel
theorem kx_16_39 : x_code k_P 16 39 = some (.iadd, 1) := by decide +kernel
theorem kx_16_40 : x_code k_P 16 40 = some (.invokestatic 30, 3) := by decide +kernel
theorem kp_16_30 : x_pool k_P 16 30 = (6, 299, 2) := by decide +kernel
theorem kx_16_43 : x_code k_P 16 43 = some (.putfield 21, 3) := by decide +kernel
theorem kx_16_46 : x_code k_P 16 46 = some (.return_, 1) := by decide +kernel
theorem kq_16 : x_retk k_P 16 = 0 := by decide +kernel
def fS_16_m : List (Nat × Nat) := [(44, 1), (44, 2), (45, 99999)]
theorem m_16 {xs : Nat → Int} {Ln d : Nat} {T : List cK} {M : cM} (hT : TT T) (hI : Rng M) : cC k_P xs Ln (d + 1) 16 [rf 44, rf 42] (T, M) (qV T M fS_16_m (fun M1 => True)) := by
  show cP k_P xs Ln (d + 1) 16 0 [(0, rf 44), (1, rf 42)] [] (T, M) _
  have hFm : Fr fS_16_m M M := Fr.refl
  refine s_aload_n kx_16_0 rfl ?_
  refine s_aload_n kx_16_1 rfl ?_
  refine r_getI (k := 44) (f := 1) kx_16_2 kp_16_17 (tk_44 hT) kf_2_1 (fun _ => rfl) (rg_44_1 hI) (fun v1 v1e v1a v1b => ?_)
  refine s_iconst (v := 1) kx_16_5 (by decide) ?_
  refine r_add kx_16_6 ⟨by omega, by omega⟩ ?_
  refine s_bipush (v := 20) kx_16_7 (by decide) ?_
  refine r_irem kx_16_9 (by omega) (by omega) (by omega) (by omega) ?_
  refine r_put (k := 44) (f := 1) kx_16_10 kp_16_17 (tk_44 hT) kf_2_1 rfl (by decide) (by decide) hI (ru_44_1 (by omega) (by omega)) (fun M2 hI2 u2 => ?_)
  have hFm2 := hFm.up u2 rfl
  refine s_aload_n kx_16_13 rfl ?_
  refine s_iconst (v := 0) kx_16_14 (by decide) ?_
  refine s_aload_n kx_16_15 rfl ?_
  refine r_getR (k := 44) (f := 0) (k2 := 45) kx_16_16 kp_16_11 (tk_44 hT) kf_2_0 (by decide) (rq_44_0 hI2) ?_
  refine s_aload_n kx_16_19 rfl ?_
  refine r_getK (k := 44) (f := 1) kx_16_20 kp_16_17 (tk_44 hT) kf_2_1 (fun _ => rfl) u2.1 ?_
  refine s_bipush (v := 81) kx_16_23 (by decide) ?_
  refine r_mul kx_16_25 ⟨by omega, by omega⟩ ?_
  refine s_bipush (v := 81) kx_16_26 (by decide) ?_
  refine r_cpy (ks := 42) (kd := 45) kx_16_28 kp_16_24 (tk_42 hT) (tk_45 hT) ⟨by omega, by omega, by omega, by omega, by omega⟩ (by decide) hI2 (fun q a b => ruH hI2 (by omega)) (fun M3 hI3 ca4 cb5 => ?_)
  have fr3 : Fr [(45, 99999)] M2 M3 := Fr.cell (fun x y h => cb5 x y (fun g => h g.1))
  have hFm3 := hFm2.call fr3 rfl
  refine s_aload_n kx_16_31 rfl ?_
  refine s_bipush (v := 20) kx_16_32 (by decide) ?_
  refine s_aload_n kx_16_34 rfl ?_
  refine r_getU (k := 44) (f := 2) kx_16_35 kp_16_21 (tk_44 hT) kf_2_2 (fun _ => rfl) (fun v6 v6e => ?_)
  have v6z : M 44 2 = v6 := (((fr3 44 2 rfl).trans (u2.2 44 2 (by omega)))).symm.trans v6e
  refine s_iconst (v := 1) kx_16_38 (by decide) ?_
  refine r_iaddR kx_16_39 (fun v7 v7a v7b => ?_)
  refine s_callS2 (s1 := 2) (s2 := 1) (as := [(0, v7), (0, 20)]) (rest := [rf 44]) kx_16_40 kp_16_30 rfl kcl_299 rfl rfl (by decide) (m_299 (d := d) (a := 20) (b := v7) hT hI3) (kF (fun v8 v8p => ?_))
  refine r_put (k := 44) (f := 2) kx_16_43 kp_16_21 (tk_44 hT) kf_2_2 rfl (by decide) (by decide) hI3 ru_44_2 (fun M9 hI9 u9 => ?_)
  have hFm9 := hFm3.up u9 rfl
  exact s_vret kx_16_46 kq_16 ⟨_, rfl, rfl, hI9, hFm9, trivial⟩
theorem kx_17_0 : x_code k_P 17 0 = some (.aload_n 0, 1) := by decide +kernel
theorem kx_17_1 : x_code k_P 17 1 = some (.getfield 11, 3) := by decide +kernel
theorem kp_17_11 : x_pool k_P 17 11 = (1, 2, 0) := by decide +kernel
theorem kx_17_4 : x_code k_P 17 4 = some (.aload_n 0, 1) := by decide +kernel
theorem kx_17_5 : x_code k_P 17 5 = some (.getfield 17, 3) := by decide +kernel
theorem kp_17_17 : x_pool k_P 17 17 = (1, 2, 1) := by decide +kernel
theorem kx_17_8 : x_code k_P 17 8 = some (.bipush 81, 2) := by decide +kernel
theorem kx_17_10 : x_code k_P 17 10 = some (.imul, 1) := by decide +kernel
theorem kx_17_11 : x_code k_P 17 11 = some (.aload_n 1, 1) := by decide +kernel
theorem kx_17_12 : x_code k_P 17 12 = some (.iconst 0, 1) := by decide +kernel
theorem kx_17_13 : x_code k_P 17 13 = some (.bipush 81, 2) := by decide +kernel
theorem kx_17_15 : x_code k_P 17 15 = some (.invokestatic 24, 3) := by decide +kernel
theorem kp_17_24 : x_pool k_P 17 24 = (10, 0, 0) := by decide +kernel
theorem kx_17_18 : x_code k_P 17 18 = some (.aload_n 0, 1) := by decide +kernel
theorem kx_17_19 : x_code k_P 17 19 = some (.aload_n 0, 1) := by decide +kernel
theorem kx_17_20 : x_code k_P 17 20 = some (.getfield 17, 3) := by decide +kernel
theorem kx_17_23 : x_code k_P 17 23 = some (.bipush 20, 2) := by decide +kernel
theorem kx_17_25 : x_code k_P 17 25 = some (.iadd, 1) := by decide +kernel
theorem kx_17_26 : x_code k_P 17 26 = some (.iconst 1, 1) := by decide +kernel
theorem kx_17_27 : x_code k_P 17 27 = some (.isub, 1) := by decide +kernel
theorem kx_17_28 : x_code k_P 17 28 = some (.bipush 20, 2) := by decide +kernel
theorem kx_17_30 : x_code k_P 17 30 = some (.irem, 1) := by decide +kernel
theorem kx_17_31 : x_code k_P 17 31 = some (.putfield 17, 3) := by decide +kernel
theorem kx_17_34 : x_code k_P 17 34 = some (.aload_n 0, 1) := by decide +kernel
theorem kx_17_35 : x_code k_P 17 35 = some (.iconst 0, 1) := by decide +kernel
theorem kx_17_36 : x_code k_P 17 36 = some (.aload_n 0, 1) := by decide +kernel
theorem kx_17_37 : x_code k_P 17 37 = some (.getfield 21, 3) := by decide +kernel
theorem kp_17_21 : x_pool k_P 17 21 = (1, 2, 2) := by decide +kernel
theorem kx_17_40 : x_code k_P 17 40 = some (.iconst 1, 1) := by decide +kernel
theorem kx_17_41 : x_code k_P 17 41 = some (.isub, 1) := by decide +kernel
theorem kx_17_42 : x_code k_P 17 42 = some (.invokestatic 36, 3) := by decide +kernel
theorem kp_17_36 : x_pool k_P 17 36 = (6, 297, 2) := by decide +kernel
theorem kx_17_45 : x_code k_P 17 45 = some (.putfield 21, 3) := by decide +kernel
theorem kx_17_48 : x_code k_P 17 48 = some (.return_, 1) := by decide +kernel
theorem kq_17 : x_retk k_P 17 = 0 := by decide +kernel
def fS_17_m : List (Nat × Nat) := [(42, 99999), (44, 1), (44, 2)]
theorem m_17 {xs : Nat → Int} {Ln d : Nat} {T : List cK} {M : cM} (hT : TT T) (hI : Rng M) : cC k_P xs Ln (d + 1) 17 [rf 44, rf 42] (T, M) (qV T M fS_17_m (fun M1 => True)) := by
  show cP k_P xs Ln (d + 1) 17 0 [(0, rf 44), (1, rf 42)] [] (T, M) _
  have hFm : Fr fS_17_m M M := Fr.refl
  refine s_aload_n kx_17_0 rfl ?_
  refine r_getR (k := 44) (f := 0) (k2 := 45) kx_17_1 kp_17_11 (tk_44 hT) kf_2_0 (by decide) (rq_44_0 hI) ?_
  refine s_aload_n kx_17_4 rfl ?_
  refine r_getI (k := 44) (f := 1) kx_17_5 kp_17_17 (tk_44 hT) kf_2_1 (fun _ => rfl) (rg_44_1 hI) (fun v1 v1e v1a v1b => ?_)
  refine s_bipush (v := 81) kx_17_8 (by decide) ?_
  refine r_mul kx_17_10 ⟨by omega, by omega⟩ ?_
  refine s_aload_n kx_17_11 rfl ?_
  refine s_iconst (v := 0) kx_17_12 (by decide) ?_
  refine s_bipush (v := 81) kx_17_13 (by decide) ?_
  refine r_cpy (ks := 45) (kd := 42) kx_17_15 kp_17_24 (tk_45 hT) (tk_42 hT) ⟨by omega, by omega, by omega, by omega, by omega⟩ (by decide) hI (fun q a b => ruB hI (by omega)) (fun M2 hI2 ca3 cb4 => ?_)
  have fr2 : Fr [(42, 99999)] M M2 := Fr.cell (fun x y h => cb4 x y (fun g => h g.1))
  have hFm2 := hFm.call fr2 rfl
  refine s_aload_n kx_17_18 rfl ?_
  refine s_aload_n kx_17_19 rfl ?_
  refine r_getK (k := 44) (f := 1) kx_17_20 kp_17_17 (tk_44 hT) kf_2_1 (fun _ => rfl) ((fr2 44 1 rfl).trans v1e) ?_
  refine s_bipush (v := 20) kx_17_23 (by decide) ?_
  refine r_add kx_17_25 ⟨by omega, by omega⟩ ?_
  refine s_iconst (v := 1) kx_17_26 (by decide) ?_
  refine r_sub kx_17_27 ⟨by omega, by omega⟩ ?_
  refine s_bipush (v := 20) kx_17_28 (by decide) ?_
  refine r_irem kx_17_30 (by omega) (by omega) (by omega) (by omega) ?_
  refine r_put (k := 44) (f := 1) kx_17_31 kp_17_17 (tk_44 hT) kf_2_1 rfl (by decide) (by decide) hI2 (ru_44_1 (by omega) (by omega)) (fun M5 hI5 u5 => ?_)
  have hFm5 := hFm2.up u5 rfl
  refine s_aload_n kx_17_34 rfl ?_
  refine s_iconst (v := 0) kx_17_35 (by decide) ?_
  refine s_aload_n kx_17_36 rfl ?_
  refine r_getU (k := 44) (f := 2) kx_17_37 kp_17_21 (tk_44 hT) kf_2_2 (fun _ => rfl) (fun v6 v6e => ?_)
  have v6z : M 44 2 = v6 := (((u5.2 44 2 (by omega)).trans (fr2 44 2 rfl))).symm.trans v6e
  refine s_iconst (v := 1) kx_17_40 (by decide) ?_
  refine r_isubR kx_17_41 (fun v7 v7a v7b => ?_)
  refine s_callS2 (s1 := 2) (s2 := 1) (as := [(0, v7), (0, 0)]) (rest := [rf 44]) kx_17_42 kp_17_36 rfl kcl_297 rfl rfl (by decide) (m_297 (d := d) (a := 0) (b := v7) hT hI5) (kF (fun v8 v8p => ?_))
  refine r_put (k := 44) (f := 2) kx_17_45 kp_17_21 (tk_44 hT) kf_2_2 rfl (by decide) (by decide) hI5 ru_44_2 (fun M9 hI9 u9 => ?_)
  have hFm9 := hFm5.up u9 rfl
  exact s_vret kx_17_48 kq_17 ⟨_, rfl, rfl, hI9, hFm9, trivial⟩
theorem kx_35_0 : x_code k_P 35 0 = some (.iconst 0, 1) := by decide +kernel
theorem kx_35_1 : x_code k_P 35 1 = some (.istore 4, 2) := by decide +kernel
theorem km_35_4 : 4 < x_maxL k_P 35 := by decide +kernel
theorem kx_35_3 : x_code k_P 35 3 = some (.iload 4, 2) := by decide +kernel
theorem kx_35_5 : x_code k_P 35 5 = some (.aload_n 1, 1) := by decide +kernel
theorem kx_35_6 : x_code k_P 35 6 = some (.getfield 44, 3) := by decide +kernel
theorem kp_35_44 : x_pool k_P 35 44 = (1, 5, 0) := by decide +kernel
theorem kx_35_9 : x_code k_P 35 9 = some (.getfield 55, 3) := by decide +kernel
theorem kp_35_55 : x_pool k_P 35 55 = (1, 9, 0) := by decide +kernel
theorem kx_35_12 : x_code k_P 35 12 = some (.if_icmp .ge 124, 3) := by decide +kernel
theorem kx_35_136 : x_code k_P 35 136 = some (.return_, 1) := by decide +kernel
theorem kq_35 : x_retk k_P 35 = 0 := by decide +kernel
theorem kx_35_15 : x_code k_P 35 15 = some (.aload_n 1, 1) := by decide +kernel
theorem kx_35_16 : x_code k_P 35 16 = some (.iload 4, 2) := by decide +kernel
theorem kx_35_18 : x_code k_P 35 18 = some (.iload_n 3, 1) := by decide +kernel
theorem kx_35_19 : x_code k_P 35 19 = some (.invokevirtual 58, 3) := by decide +kernel
theorem kp_35_58 : x_pool k_P 35 58 = (2, 57, 2) := by decide +kernel
theorem kx_35_22 : x_code k_P 35 22 = some (.istore 5, 2) := by decide +kernel
theorem km_35_5 : 5 < x_maxL k_P 35 := by decide +kernel
theorem kx_35_24 : x_code k_P 35 24 = some (.iconst 0, 1) := by decide +kernel
theorem kx_35_25 : x_code k_P 35 25 = some (.istore 6, 2) := by decide +kernel
theorem km_35_6 : 6 < x_maxL k_P 35 := by decide +kernel
theorem kx_35_27 : x_code k_P 35 27 = some (.iload 6, 2) := by decide +kernel
theorem kx_35_29 : x_code k_P 35 29 = some (.aload_n 1, 1) := by decide +kernel
theorem kx_35_30 : x_code k_P 35 30 = some (.getfield 44, 3) := by decide +kernel
theorem kx_35_33 : x_code k_P 35 33 = some (.getfield 55, 3) := by decide +kernel
theorem kx_35_36 : x_code k_P 35 36 = some (.if_icmp .ge 94, 3) := by decide +kernel
theorem kx_35_130 : x_code k_P 35 130 = some (.iinc 4 1, 3) := by decide +kernel
theorem kx_35_133 : x_code k_P 35 133 = some (.goto (-130), 3) := by decide +kernel
theorem kx_35_39 : x_code k_P 35 39 = some (.aload_n 1, 1) := by decide +kernel
theorem kx_35_40 : x_code k_P 35 40 = some (.getfield 44, 3) := by decide +kernel
theorem kx_35_43 : x_code k_P 35 43 = some (.iload 6, 2) := by decide +kernel
theorem kx_35_45 : x_code k_P 35 45 = some (.iload 4, 2) := by decide +kernel
theorem kx_35_47 : x_code k_P 35 47 = some (.invokevirtual 62, 3) := by decide +kernel
theorem kp_35_62 : x_pool k_P 35 62 = (2, 117, 2) := by decide +kernel
theorem kx_35_50 : x_code k_P 35 50 = some (.istore 7, 2) := by decide +kernel
theorem km_35_7 : 7 < x_maxL k_P 35 := by decide +kernel
theorem kx_35_52 : x_code k_P 35 52 = some (.iload 5, 2) := by decide +kernel
theorem kx_35_54 : x_code k_P 35 54 = some (.ifCond .eq 70, 3) := by decide +kernel
theorem kx_35_124 : x_code k_P 35 124 = some (.iinc 6 1, 3) := by decide +kernel
theorem kx_35_127 : x_code k_P 35 127 = some (.goto (-100), 3) := by decide +kernel
theorem kx_35_57 : x_code k_P 35 57 = some (.iload 7, 2) := by decide +kernel
theorem kx_35_59 : x_code k_P 35 59 = some (.ifCond .ne 6, 3) := by decide +kernel
theorem kx_35_65 : x_code k_P 35 65 = some (.iload 6, 2) := by decide +kernel
theorem kx_35_67 : x_code k_P 35 67 = some (.bipush 8, 2) := by decide +kernel
theorem kx_35_69 : x_code k_P 35 69 = some (.imul, 1) := by decide +kernel
theorem kx_35_70 : x_code k_P 35 70 = some (.iload 4, 2) := by decide +kernel
theorem kx_35_72 : x_code k_P 35 72 = some (.iadd, 1) := by decide +kernel
theorem kx_35_73 : x_code k_P 35 73 = some (.istore 8, 2) := by decide +kernel
theorem km_35_8 : 8 < x_maxL k_P 35 := by decide +kernel
theorem kx_35_75 : x_code k_P 35 75 = some (.aload_n 1, 1) := by decide +kernel
theorem kx_35_76 : x_code k_P 35 76 = some (.iload_n 2, 1) := by decide +kernel
theorem kx_35_77 : x_code k_P 35 77 = some (.iload_n 3, 1) := by decide +kernel
theorem kx_35_78 : x_code k_P 35 78 = some (.iload 7, 2) := by decide +kernel
theorem kx_35_80 : x_code k_P 35 80 = some (.invokevirtual 66, 3) := by decide +kernel
theorem kp_35_66 : x_pool k_P 35 66 = (2, 62, 3) := by decide +kernel
theorem kx_35_83 : x_code k_P 35 83 = some (.istore 9, 2) := by decide +kernel
theorem km_35_9 : 9 < x_maxL k_P 35 := by decide +kernel
theorem kx_35_85 : x_code k_P 35 85 = some (.aload_n 0, 1) := by decide +kernel
theorem kx_35_86 : x_code k_P 35 86 = some (.getfield 9, 3) := by decide +kernel
theorem kp_35_9 : x_pool k_P 35 9 = (1, 4, 0) := by decide +kernel
theorem kf_4_0 : (x_cls k_P 4)[0]? = some 12 := by decide +kernel
theorem kx_35_89 : x_code k_P 35 89 = some (.iload 8, 2) := by decide +kernel
theorem kx_35_91 : x_code k_P 35 91 = some (.iaload, 1) := by decide +kernel
theorem kx_35_92 : x_code k_P 35 92 = some (.ifCond .eq 15, 3) := by decide +kernel
theorem kx_35_107 : x_code k_P 35 107 = some (.aload_n 0, 1) := by decide +kernel
theorem kx_35_108 : x_code k_P 35 108 = some (.getfield 9, 3) := by decide +kernel
theorem kx_35_111 : x_code k_P 35 111 = some (.iload 8, 2) := by decide +kernel
theorem kx_35_113 : x_code k_P 35 113 = some (.iload 9, 2) := by decide +kernel
theorem kx_35_115 : x_code k_P 35 115 = some (.iastore, 1) := by decide +kernel
theorem kx_35_116 : x_code k_P 35 116 = some (.aload_n 0, 1) := by decide +kernel
theorem kx_35_117 : x_code k_P 35 117 = some (.getfield 15, 3) := by decide +kernel
theorem kp_35_15 : x_pool k_P 35 15 = (1, 4, 1) := by decide +kernel
theorem kf_4_1 : (x_cls k_P 4)[1]? = some 12 := by decide +kernel
theorem kx_35_120 : x_code k_P 35 120 = some (.iload 8, 2) := by decide +kernel
theorem kx_35_122 : x_code k_P 35 122 = some (.iload_n 2, 1) := by decide +kernel
theorem kx_35_123 : x_code k_P 35 123 = some (.iastore, 1) := by decide +kernel
theorem kx_35_95 : x_code k_P 35 95 = some (.iload 9, 2) := by decide +kernel
theorem kx_35_97 : x_code k_P 35 97 = some (.aload_n 0, 1) := by decide +kernel
theorem kx_35_98 : x_code k_P 35 98 = some (.getfield 9, 3) := by decide +kernel
theorem kx_35_101 : x_code k_P 35 101 = some (.iload 8, 2) := by decide +kernel
theorem kx_35_103 : x_code k_P 35 103 = some (.iaload, 1) := by decide +kernel
theorem kx_35_104 : x_code k_P 35 104 = some (.if_icmp .ge 20, 3) := by decide +kernel
theorem kx_35_62 : x_code k_P 35 62 = some (.goto 62, 3) := by decide +kernel
def fS_35_l27 : List (Nat × Nat) := [(20, 99999), (23, 99999), (37, 99999), (40, 99999), (43, 99999), (47, 99999), (48, 99999)]
def fS_35_l3 : List (Nat × Nat) := [(20, 99999), (23, 99999), (37, 99999), (40, 99999), (43, 99999), (47, 99999), (48, 99999)]
def fS_35_m : List (Nat × Nat) := [(20, 99999), (23, 99999), (37, 99999), (40, 99999), (43, 99999), (47, 99999), (48, 99999)]
theorem m_35 {xs : Nat → Int} {Ln d : Nat} {T : List cK} {M : cM} (hT : TT T) (hI : Rng M) {t : Nat} (ht : t = 8 ∨ t = 25) (h70 : M 7 0 = ((t : Nat) : Int)) (hN : Fm T M) {person chair : Int} (p0 : 0 ≤ person ∧ person ≤ 7) : cC k_P xs Ln (d + 5) 35 [rf 46, rf 7, (0, person), (0, chair)] (T, M) (qV T M fS_35_m (fun M1 => True)) := by
  show cP k_P xs Ln (d + 5) 35 0 [(0, rf 46), (1, rf 7), (2, (0, person)), (3, (0, chair))] [] (T, M) _
  have hFm : Fr fS_35_m M M := Fr.refl
  refine s_iconst (v := 0) kx_35_0 (by decide) ?_
  refine s_istore kx_35_1 km_35_4 rfl ?_
  have key3 : ∀ n4 : Nat, ∀ (x4_1 : Int), ∀ M2 : cM, Rng M2 → Fr fS_35_m M M2 → Fr fS_35_l3 M M2 → (0 ≤ x4_1) → (2147483647 - x4_1).toNat < n4 → cP k_P xs Ln (d + 5) 35 3 [(0, rf 46), (1, rf 7), (2, (0, person)), (3, (0, chair)), (4, (0, x4_1))] [] (T, M2) (qV T M fS_35_m (fun M1 => True)) := by
    intro n4
    induction n4 with
    | zero => intro x4_1 M2 hI2 hFm2 fl2 i5 hm6; exact absurd hm6 (Nat.not_lt_zero _)
    | succ n4 ih7 =>
      intro x4_1 M2 hI2 hFm2 fl2 i5 hm6
      refine s_iload kx_35_3 rfl ?_
      refine s_aload_n kx_35_5 rfl ?_
      refine r_getR (k := 7) (f := 0) (k2 := t) kx_35_6 kp_35_44 (tk_7 hT) kf_5_0 (by decide) ((fl2 7 0 rfl).trans h70) ?_
      refine r_getI (k := t) (f := 0) kx_35_9 kp_35_55 (tkt_0 hT ht) kf_9_0 (fun _ => rfl) (rgt_0_0 hI2 ht) (fun v8 v8e v8a v8b => ?_)
      have v8z : M t 0 = v8 := ((fl2 t 0 (by rcases ht with rfl | rfl <;> rfl))).symm.trans v8e
      refine s_icmp_ge (t := 136) kx_35_12 (by decide) (fun hc9 => ?_) (fun hc9 => ?_)
      · exact s_vret kx_35_136 kq_35 ⟨_, rfl, rfl, hI2, hFm2, trivial⟩
      · refine s_aload_n kx_35_15 rfl ?_
        refine s_iload kx_35_16 rfl ?_
        refine s_iload_n kx_35_18 rfl ?_
        refine s_callV2 (k := 7) (s1 := 3) (s2 := 0) (as := [(0, chair), (0, x4_1)]) (rest := []) kx_35_19 kp_35_58 (Or.inl rfl) rfl (tk_7 hT) ki_57 kcl_57 rfl rfl (by decide) (m_57 (d := d + 2) (room := x4_1) (chair := chair) hT hI2 ht ((fl2 7 0 rfl).trans h70)) (kF (fun v10 v10p => ?_))
        refine s_istore kx_35_22 km_35_5 rfl ?_
        refine s_iconst (v := 0) kx_35_24 (by decide) ?_
        refine s_istore kx_35_25 km_35_6 rfl ?_
        have key13 : ∀ n14 : Nat, ∀ (x6_11 : Int), ∀ M12 : cM, Rng M12 → Fr fS_35_m M M12 → Fr fS_35_l3 M M12 → Fr fS_35_l27 M2 M12 → (0 ≤ x6_11) → (2147483647 - x6_11).toNat < n14 → cP k_P xs Ln (d + 5) 35 27 [(0, rf 46), (1, rf 7), (2, (0, person)), (3, (0, chair)), (4, (0, x4_1)), (5, (0, v10)), (6, (0, x6_11))] [] (T, M12) (qV T M fS_35_m (fun M1 => True)) := by
          intro n14
          induction n14 with
          | zero => intro x6_11 M12 hI12 hFm12 hFl312 fl12 i15 hm16; exact absurd hm16 (Nat.not_lt_zero _)
          | succ n14 ih17 =>
            intro x6_11 M12 hI12 hFm12 hFl312 fl12 i15 hm16
            refine s_iload kx_35_27 rfl ?_
            refine s_aload_n kx_35_29 rfl ?_
            refine r_getR (k := 7) (f := 0) (k2 := t) kx_35_30 kp_35_44 (tk_7 hT) kf_5_0 (by decide) ((fl12 7 0 rfl).trans ((fl2 7 0 rfl).trans h70)) ?_
            refine r_getK (k := t) (f := 0) kx_35_33 kp_35_55 (tkt_0 hT ht) kf_9_0 (fun _ => rfl) ((fl12 t 0 (by rcases ht with rfl | rfl <;> rfl)).trans v8e) ?_
            refine s_icmp_ge (t := 130) kx_35_36 (by decide) (fun hc18 => ?_) (fun hc18 => ?_)
            · refine r_iinc kx_35_130 rfl km_35_4 (by decide) ⟨by omega, by omega⟩ rfl ?_
              refine s_goto (t := 3) kx_35_133 (by decide) ?_
              exact cP.wk (lS1 rfl (lS1 rfl (lS1 rfl (lS1 rfl (lS1 rfl lS0))))) (ih7 (x4_1 + 1) M12 hI12 hFm12 hFl312 (by omega) (by omega))
            · refine s_aload_n kx_35_39 rfl ?_
              refine r_getR (k := 7) (f := 0) (k2 := t) kx_35_40 kp_35_44 (tk_7 hT) kf_5_0 (by decide) ((fl12 7 0 rfl).trans ((fl2 7 0 rfl).trans h70)) ?_
              refine s_iload kx_35_43 rfl ?_
              refine s_iload kx_35_45 rfl ?_
              refine s_callV2 (k := t) (s1 := 3) (s2 := 0) (as := [(0, x4_1), (0, x6_11)]) (rest := []) kx_35_47 kp_35_62 (Or.inl rfl) rfl (tkt_0 hT ht) ki_117 kcl_117 rfl rfl (by decide) (m_117 (d := d + 3) (a := x6_11) (b := x4_1) hT hI12 ht) (kF (fun v19 v19p => ?_))
              refine s_istore kx_35_50 km_35_7 rfl ?_
              refine s_iload kx_35_52 rfl ?_
              refine s_if_eq (t := 124) kx_35_54 (by decide) (fun hc20 => ?_) (fun hc20 => ?_)
              · refine r_iinc kx_35_124 rfl km_35_6 (by decide) ⟨by omega, by omega⟩ rfl ?_
                refine s_goto (t := 27) kx_35_127 (by decide) ?_
                exact cP.wk (lS1 rfl (lS1 rfl (lS1 rfl (lS1 rfl (lS1 rfl (lS1 rfl (lS1 rfl lS0))))))) (ih17 (x6_11 + 1) M12 hI12 hFm12 hFl312 fl12 (by omega) (by omega))
              · refine s_iload kx_35_57 rfl ?_
                refine s_if_ne (t := 65) kx_35_59 (by decide) (fun hc21 => ?_) (fun hc21 => ?_)
                · refine s_iload kx_35_65 rfl ?_
                  refine s_bipush (v := 8) kx_35_67 (by decide) ?_
                  refine r_mul kx_35_69 ⟨by omega, by omega⟩ ?_
                  refine s_iload kx_35_70 rfl ?_
                  refine r_add kx_35_72 ⟨by omega, by omega⟩ ?_
                  refine s_istore kx_35_73 km_35_8 rfl ?_
                  refine s_aload_n kx_35_75 rfl ?_
                  refine s_iload_n kx_35_76 rfl ?_
                  refine s_iload_n kx_35_77 rfl ?_
                  refine s_iload kx_35_78 rfl ?_
                  refine s_callV2 (k := 7) (s1 := 4) (s2 := 0) (as := [(0, v19), (0, chair), (0, person)]) (rest := []) kx_35_80 kp_35_66 (Or.inl rfl) rfl (tk_7 hT) ki_62 kcl_62 rfl rfl (by decide) (m_62 (d := d) (person := person) (chair := chair) (wayMinutes := v19) hT hI12 ht ((fl12 7 0 rfl).trans ((fl2 7 0 rfl).trans h70)) (hN.fr hFm12 rfl) (by omega) (by omega)) (kW (fun v22 M23 hI23 fr23 v22p => ?_))
                  have hFm23 := hFm12.call fr23 rfl
                  have hFl323 := hFl312.call fr23 rfl
                  have hFl2723 := fl12.call fr23 rfl
                  refine s_istore kx_35_83 km_35_9 rfl ?_
                  refine s_aload_n kx_35_85 rfl ?_
                  refine r_getR (k := 46) (f := 0) (k2 := 47) kx_35_86 kp_35_9 (tk_46 hT) kf_4_0 (by decide) (rq_46_0 hI23) ?_
                  refine s_iload kx_35_89 rfl ?_
                  refine r_aldU (k := 47) kx_35_91 (tk_47 hT) ⟨by omega, by omega⟩ (fun v24 v24e => ?_)
                  refine s_if_eq (t := 107) kx_35_92 (by decide) (fun hc25 => ?_) (fun hc25 => ?_)
                  · refine s_aload_n kx_35_107 rfl ?_
                    refine r_getR (k := 46) (f := 0) (k2 := 47) kx_35_108 kp_35_9 (tk_46 hT) kf_4_0 (by decide) (rq_46_0 hI23) ?_
                    refine s_iload kx_35_111 rfl ?_
                    refine s_iload kx_35_113 rfl ?_
                    refine r_ast (k := 47) kx_35_115 (tk_47 hT) ⟨by omega, by omega⟩ hI23 ru_47 (fun M26 hI26 u26 => ?_)
                    have hFm26 := hFm23.up u26 rfl
                    have hFl326 := hFl323.up u26 rfl
                    have hFl2726 := hFl2723.up u26 rfl
                    refine s_aload_n kx_35_116 rfl ?_
                    refine r_getR (k := 46) (f := 1) (k2 := 48) kx_35_117 kp_35_15 (tk_46 hT) kf_4_1 (by decide) (rq_46_1 hI26) ?_
                    refine s_iload kx_35_120 rfl ?_
                    refine s_iload_n kx_35_122 rfl ?_
                    refine r_ast (k := 48) kx_35_123 (tk_48 hT) ⟨by omega, by omega⟩ hI26 ru_48 (fun M27 hI27 u27 => ?_)
                    have hFm27 := hFm26.up u27 rfl
                    have hFl327 := hFl326.up u27 rfl
                    have hFl2727 := hFl2726.up u27 rfl
                    refine r_iinc kx_35_124 rfl km_35_6 (by decide) ⟨by omega, by omega⟩ rfl ?_
                    refine s_goto (t := 27) kx_35_127 (by decide) ?_
                    exact cP.wk (lS1 rfl (lS1 rfl (lS1 rfl (lS1 rfl (lS1 rfl (lS1 rfl (lS1 rfl lS0))))))) (ih17 (x6_11 + 1) M27 hI27 hFm27 hFl327 hFl2727 (by omega) (by omega))
                  · refine s_iload kx_35_95 rfl ?_
                    refine s_aload_n kx_35_97 rfl ?_
                    refine r_getR (k := 46) (f := 0) (k2 := 47) kx_35_98 kp_35_9 (tk_46 hT) kf_4_0 (by decide) (rq_46_0 hI23) ?_
                    refine s_iload kx_35_101 rfl ?_
                    refine r_aldK (k := 47) kx_35_103 (tk_47 hT) ⟨by omega, by omega⟩ v24e ?_
                    refine s_icmp_ge (t := 124) kx_35_104 (by decide) (fun hc28 => ?_) (fun hc28 => ?_)
                    · refine r_iinc kx_35_124 rfl km_35_6 (by decide) ⟨by omega, by omega⟩ rfl ?_
                      refine s_goto (t := 27) kx_35_127 (by decide) ?_
                      exact cP.wk (lS1 rfl (lS1 rfl (lS1 rfl (lS1 rfl (lS1 rfl (lS1 rfl (lS1 rfl lS0))))))) (ih17 (x6_11 + 1) M23 hI23 hFm23 hFl323 hFl2723 (by omega) (by omega))
                    · refine s_aload_n kx_35_107 rfl ?_
                      refine r_getR (k := 46) (f := 0) (k2 := 47) kx_35_108 kp_35_9 (tk_46 hT) kf_4_0 (by decide) (rq_46_0 hI23) ?_
                      refine s_iload kx_35_111 rfl ?_
                      refine s_iload kx_35_113 rfl ?_
                      refine r_ast (k := 47) kx_35_115 (tk_47 hT) ⟨by omega, by omega⟩ hI23 ru_47 (fun M29 hI29 u29 => ?_)
                      have hFm29 := hFm23.up u29 rfl
                      have hFl329 := hFl323.up u29 rfl
                      have hFl2729 := hFl2723.up u29 rfl
                      refine s_aload_n kx_35_116 rfl ?_
                      refine r_getR (k := 46) (f := 1) (k2 := 48) kx_35_117 kp_35_15 (tk_46 hT) kf_4_1 (by decide) (rq_46_1 hI29) ?_
                      refine s_iload kx_35_120 rfl ?_
                      refine s_iload_n kx_35_122 rfl ?_
                      refine r_ast (k := 48) kx_35_123 (tk_48 hT) ⟨by omega, by omega⟩ hI29 ru_48 (fun M30 hI30 u30 => ?_)
                      have hFm30 := hFm29.up u30 rfl
                      have hFl330 := hFl329.up u30 rfl
                      have hFl2730 := hFl2729.up u30 rfl
                      refine r_iinc kx_35_124 rfl km_35_6 (by decide) ⟨by omega, by omega⟩ rfl ?_
                      refine s_goto (t := 27) kx_35_127 (by decide) ?_
                      exact cP.wk (lS1 rfl (lS1 rfl (lS1 rfl (lS1 rfl (lS1 rfl (lS1 rfl (lS1 rfl lS0))))))) (ih17 (x6_11 + 1) M30 hI30 hFm30 hFl330 hFl2730 (by omega) (by omega))
                · refine s_goto (t := 124) kx_35_62 (by decide) ?_
                  refine r_iinc kx_35_124 rfl km_35_6 (by decide) ⟨by omega, by omega⟩ rfl ?_
                  refine s_goto (t := 27) kx_35_127 (by decide) ?_
                  exact cP.wk (lS1 rfl (lS1 rfl (lS1 rfl (lS1 rfl (lS1 rfl (lS1 rfl (lS1 rfl lS0))))))) (ih17 (x6_11 + 1) M12 hI12 hFm12 hFl312 fl12 (by omega) (by omega))
        exact cP.wk (lS1 rfl (lS1 rfl (lS1 rfl (lS1 rfl (lS1 rfl (lS1 rfl (lS1 rfl lS0))))))) (key13 _ 0 M2 hI2 hFm2 fl2 Fr.refl (by omega) (Nat.lt_succ_self _))
  exact cP.wk (lS1 rfl (lS1 rfl (lS1 rfl (lS1 rfl (lS1 rfl lS0))))) (key3 _ 0 M hI hFm Fr.refl (by omega) (Nat.lt_succ_self _))
theorem kx_33_0 : x_code k_P 33 0 = some (.aload_n 0, 1) := by decide +kernel
theorem kx_33_1 : x_code k_P 33 1 = some (.getfield 9, 3) := by decide +kernel
theorem kp_33_9 : x_pool k_P 33 9 = (1, 4, 0) := by decide +kernel
theorem kx_33_4 : x_code k_P 33 4 = some (.iconst 0, 1) := by decide +kernel
theorem kx_33_5 : x_code k_P 33 5 = some (.invokestatic 34, 3) := by decide +kernel
theorem kp_33_34 : x_pool k_P 33 34 = (6, 301, 2) := by decide +kernel
theorem kx_33_8 : x_code k_P 33 8 = some (.aload_n 0, 1) := by decide +kernel
theorem kx_33_9 : x_code k_P 33 9 = some (.aload_n 1, 1) := by decide +kernel
theorem kx_33_10 : x_code k_P 33 10 = some (.iload_n 2, 1) := by decide +kernel
theorem kx_33_11 : x_code k_P 33 11 = some (.iload_n 3, 1) := by decide +kernel
theorem kx_33_12 : x_code k_P 33 12 = some (.invokevirtual 40, 3) := by decide +kernel
theorem kp_33_40 : x_pool k_P 33 40 = (2, 35, 3) := by decide +kernel
theorem ki_35 : x_mci k_P 35 = 4 := by decide +kernel
theorem kcl_35 : x_maxL k_P 35 ≤ 60 ∧ 4 ≤ x_maxL k_P 35 := by decide +kernel
theorem kx_33_15 : x_code k_P 33 15 = some (.return_, 1) := by decide +kernel
theorem kq_33 : x_retk k_P 33 = 0 := by decide +kernel
def fS_33_m : List (Nat × Nat) := [(20, 99999), (23, 99999), (37, 99999), (40, 99999), (43, 99999), (47, 99999), (48, 99999)]
theorem m_33 {xs : Nat → Int} {Ln d : Nat} {T : List cK} {M : cM} (hT : TT T) (hI : Rng M) {t : Nat} (ht : t = 8 ∨ t = 25) (h70 : M 7 0 = ((t : Nat) : Int)) (hN : Fm T M) {person chair : Int} (p0 : 0 ≤ person ∧ person ≤ 7) : cC k_P xs Ln (d + 6) 33 [rf 46, rf 7, (0, person), (0, chair)] (T, M) (qV T M fS_33_m (fun M1 => True)) := by
  show cP k_P xs Ln (d + 6) 33 0 [(0, rf 46), (1, rf 7), (2, (0, person)), (3, (0, chair))] [] (T, M) _
  have hFm : Fr fS_33_m M M := Fr.refl
  refine s_aload_n kx_33_0 rfl ?_
  refine r_getR (k := 46) (f := 0) (k2 := 47) kx_33_1 kp_33_9 (tk_46 hT) kf_4_0 (by decide) (rq_46_0 hI) ?_
  refine s_iconst (v := 0) kx_33_4 (by decide) ?_
  refine s_callS2 (s1 := 2) (s2 := 0) (as := [(0, 0), rf 47]) (rest := []) kx_33_5 kp_33_34 rfl kcl_301 rfl rfl (by decide) (m_301 (d := d + 5) (val := 0) hT hI (k := 47) (n := 64) (tk_47 hT) (by decide) (fun _ => ru_47)) (kV (fun M2 hI2 fr2 v1p => ?_))
  have hFm2 := hFm.call fr2 rfl
  refine s_aload_n kx_33_8 rfl ?_
  refine s_aload_n kx_33_9 rfl ?_
  refine s_iload_n kx_33_10 rfl ?_
  refine s_iload_n kx_33_11 rfl ?_
  refine s_callV2 (k := 46) (s1 := 4) (s2 := 0) (as := [(0, chair), (0, person), rf 7]) (rest := []) kx_33_12 kp_33_40 (Or.inl rfl) rfl (tk_46 hT) ki_35 kcl_35 rfl rfl (by decide) (m_35 (d := d) (person := person) (chair := chair) hT hI2 ht ((fr2 7 0 rfl).trans h70) (hN.fr hFm2 rfl) (by omega)) (kV (fun M4 hI4 fr4 v3p => ?_))
  have hFm4 := hFm2.call fr4 rfl
  exact s_vret kx_33_15 kq_33 ⟨_, rfl, rfl, hI4, hFm4, trivial⟩
theorem kx_34_0 : x_code k_P 34 0 = some (.aload_n 0, 1) := by decide +kernel
theorem kx_34_1 : x_code k_P 34 1 = some (.getfield 9, 3) := by decide +kernel
theorem kp_34_9 : x_pool k_P 34 9 = (1, 4, 0) := by decide +kernel
theorem kx_34_4 : x_code k_P 34 4 = some (.iconst 0, 1) := by decide +kernel
theorem kx_34_5 : x_code k_P 34 5 = some (.invokestatic 34, 3) := by decide +kernel
theorem kp_34_34 : x_pool k_P 34 34 = (6, 301, 2) := by decide +kernel
theorem kx_34_8 : x_code k_P 34 8 = some (.iconst 0, 1) := by decide +kernel
theorem kx_34_9 : x_code k_P 34 9 = some (.istore_n 3, 1) := by decide +kernel
theorem km_34_3 : 3 < x_maxL k_P 34 := by decide +kernel
theorem kx_34_10 : x_code k_P 34 10 = some (.iload_n 3, 1) := by decide +kernel
theorem kx_34_11 : x_code k_P 34 11 = some (.aload_n 1, 1) := by decide +kernel
theorem kx_34_12 : x_code k_P 34 12 = some (.getfield 44, 3) := by decide +kernel
theorem kp_34_44 : x_pool k_P 34 44 = (1, 5, 0) := by decide +kernel
theorem kx_34_15 : x_code k_P 34 15 = some (.getfield 50, 3) := by decide +kernel
theorem kp_34_50 : x_pool k_P 34 50 = (1, 9, 1) := by decide +kernel
theorem kx_34_18 : x_code k_P 34 18 = some (.if_icmp .ge 16, 3) := by decide +kernel
theorem kx_34_34 : x_code k_P 34 34 = some (.return_, 1) := by decide +kernel
theorem kq_34 : x_retk k_P 34 = 0 := by decide +kernel
theorem kx_34_21 : x_code k_P 34 21 = some (.aload_n 0, 1) := by decide +kernel
theorem kx_34_22 : x_code k_P 34 22 = some (.aload_n 1, 1) := by decide +kernel
theorem kx_34_23 : x_code k_P 34 23 = some (.iload_n 3, 1) := by decide +kernel
theorem kx_34_24 : x_code k_P 34 24 = some (.iload_n 2, 1) := by decide +kernel
theorem kx_34_25 : x_code k_P 34 25 = some (.invokevirtual 40, 3) := by decide +kernel
theorem kp_34_40 : x_pool k_P 34 40 = (2, 35, 3) := by decide +kernel
theorem kx_34_28 : x_code k_P 34 28 = some (.iinc 3 1, 3) := by decide +kernel
theorem kx_34_31 : x_code k_P 34 31 = some (.goto (-21), 3) := by decide +kernel
def fS_34_l10 : List (Nat × Nat) := [(20, 99999), (23, 99999), (37, 99999), (40, 99999), (43, 99999), (47, 99999), (48, 99999)]
def fS_34_m : List (Nat × Nat) := [(20, 99999), (23, 99999), (37, 99999), (40, 99999), (43, 99999), (47, 99999), (48, 99999)]
theorem m_34 {xs : Nat → Int} {Ln d : Nat} {T : List cK} {M : cM} (hT : TT T) (hI : Rng M) {t : Nat} (ht : t = 8 ∨ t = 25) (h70 : M 7 0 = ((t : Nat) : Int)) (hN : Fm T M) {chair : Int} : cC k_P xs Ln (d + 6) 34 [rf 46, rf 7, (0, chair)] (T, M) (qV T M fS_34_m (fun M1 => True)) := by
  show cP k_P xs Ln (d + 6) 34 0 [(0, rf 46), (1, rf 7), (2, (0, chair))] [] (T, M) _
  have hFm : Fr fS_34_m M M := Fr.refl
  refine s_aload_n kx_34_0 rfl ?_
  refine r_getR (k := 46) (f := 0) (k2 := 47) kx_34_1 kp_34_9 (tk_46 hT) kf_4_0 (by decide) (rq_46_0 hI) ?_
  refine s_iconst (v := 0) kx_34_4 (by decide) ?_
  refine s_callS2 (s1 := 2) (s2 := 0) (as := [(0, 0), rf 47]) (rest := []) kx_34_5 kp_34_34 rfl kcl_301 rfl rfl (by decide) (m_301 (d := d + 5) (val := 0) hT hI (k := 47) (n := 64) (tk_47 hT) (by decide) (fun _ => ru_47)) (kV (fun M2 hI2 fr2 v1p => ?_))
  have hFm2 := hFm.call fr2 rfl
  refine s_iconst (v := 0) kx_34_8 (by decide) ?_
  refine s_istore_n kx_34_9 km_34_3 rfl ?_
  have key5 : ∀ n6 : Nat, ∀ (x3_3 : Int), ∀ M4 : cM, Rng M4 → Fr fS_34_m M M4 → Fr fS_34_l10 M2 M4 → (0 ≤ x3_3) → (2147483647 - x3_3).toNat < n6 → cP k_P xs Ln (d + 6) 34 10 [(0, rf 46), (1, rf 7), (2, (0, chair)), (3, (0, x3_3))] [] (T, M4) (qV T M fS_34_m (fun M1 => True)) := by
    intro n6
    induction n6 with
    | zero => intro x3_3 M4 hI4 hFm4 fl4 i7 hm8; exact absurd hm8 (Nat.not_lt_zero _)
    | succ n6 ih9 =>
      intro x3_3 M4 hI4 hFm4 fl4 i7 hm8
      refine s_iload_n kx_34_10 rfl ?_
      refine s_aload_n kx_34_11 rfl ?_
      refine r_getR (k := 7) (f := 0) (k2 := t) kx_34_12 kp_34_44 (tk_7 hT) kf_5_0 (by decide) ((fl4 7 0 rfl).trans ((fr2 7 0 rfl).trans h70)) ?_
      refine r_getI (k := t) (f := 1) kx_34_15 kp_34_50 (tkt_0 hT ht) kf_9_1 (fun _ => rfl) (rgt_0_1 hI4 ht) (fun v10 v10e v10a v10b => ?_)
      have v10z : M t 1 = v10 := (((fl4 t 1 (by rcases ht with rfl | rfl <;> rfl)).trans (fr2 t 1 (by rcases ht with rfl | rfl <;> rfl)))).symm.trans v10e
      refine s_icmp_ge (t := 34) kx_34_18 (by decide) (fun hc11 => ?_) (fun hc11 => ?_)
      · exact s_vret kx_34_34 kq_34 ⟨_, rfl, rfl, hI4, hFm4, trivial⟩
      · refine s_aload_n kx_34_21 rfl ?_
        refine s_aload_n kx_34_22 rfl ?_
        refine s_iload_n kx_34_23 rfl ?_
        refine s_iload_n kx_34_24 rfl ?_
        refine s_callV2 (k := 46) (s1 := 4) (s2 := 0) (as := [(0, chair), (0, x3_3), rf 7]) (rest := []) kx_34_25 kp_34_40 (Or.inl rfl) rfl (tk_46 hT) ki_35 kcl_35 rfl rfl (by decide) (m_35 (d := d) (person := x3_3) (chair := chair) hT hI4 ht ((fl4 7 0 rfl).trans ((fr2 7 0 rfl).trans h70)) (hN.fr hFm4 rfl) (by omega)) (kV (fun M13 hI13 fr13 v12p => ?_))
        have hFm13 := hFm4.call fr13 rfl
        have hFl1013 := fl4.call fr13 rfl
        refine r_iinc kx_34_28 rfl km_34_3 (by decide) ⟨by omega, by omega⟩ rfl ?_
        refine s_goto (t := 10) kx_34_31 (by decide) ?_
        exact cP.wk (lS1 rfl (lS1 rfl (lS1 rfl (lS1 rfl lS0)))) (ih9 (x3_3 + 1) M13 hI13 hFm13 hFl1013 (by omega) (by omega))
  exact cP.wk (lS1 rfl (lS1 rfl (lS1 rfl (lS1 rfl lS0)))) (key5 _ 0 M2 hI2 hFm2 Fr.refl (by omega) (Nat.lt_succ_self _))
theorem kx_37_0 : x_code k_P 37 0 = some (.aload_n 0, 1) := by decide +kernel
theorem kx_37_1 : x_code k_P 37 1 = some (.getfield 18, 3) := by decide +kernel
theorem kp_37_18 : x_pool k_P 37 18 = (1, 4, 2) := by decide +kernel
theorem kf_4_2 : (x_cls k_P 4)[2]? = some 12 := by decide +kernel
theorem kx_37_4 : x_code k_P 37 4 = some (.ldc 74, 2) := by decide +kernel
theorem kp_37_74 : x_pool k_P 37 74 = (7, 0, 1000000000) := by decide +kernel
theorem kx_37_6 : x_code k_P 37 6 = some (.invokestatic 34, 3) := by decide +kernel
theorem kp_37_34 : x_pool k_P 37 34 = (6, 301, 2) := by decide +kernel
theorem kx_37_9 : x_code k_P 37 9 = some (.aload_n 0, 1) := by decide +kernel
theorem kx_37_10 : x_code k_P 37 10 = some (.getfield 18, 3) := by decide +kernel
theorem kx_37_13 : x_code k_P 37 13 = some (.iload_n 2, 1) := by decide +kernel
theorem kx_37_14 : x_code k_P 37 14 = some (.iconst 0, 1) := by decide +kernel
theorem kx_37_15 : x_code k_P 37 15 = some (.iastore, 1) := by decide +kernel
theorem kx_37_16 : x_code k_P 37 16 = some (.iconst 1, 1) := by decide +kernel
theorem kx_37_17 : x_code k_P 37 17 = some (.istore_n 3, 1) := by decide +kernel
theorem km_37_3 : 3 < x_maxL k_P 37 := by decide +kernel
theorem kx_37_18 : x_code k_P 37 18 = some (.iload_n 3, 1) := by decide +kernel
theorem kx_37_19 : x_code k_P 37 19 = some (.iload_n 1, 1) := by decide +kernel
theorem kx_37_20 : x_code k_P 37 20 = some (.if_icmp .ge 98, 3) := by decide +kernel
theorem kx_37_118 : x_code k_P 37 118 = some (.return_, 1) := by decide +kernel
theorem kq_37 : x_retk k_P 37 = 0 := by decide +kernel
theorem kx_37_23 : x_code k_P 37 23 = some (.iconst 0, 1) := by decide +kernel
theorem kx_37_24 : x_code k_P 37 24 = some (.istore 4, 2) := by decide +kernel
theorem km_37_4 : 4 < x_maxL k_P 37 := by decide +kernel
theorem kx_37_26 : x_code k_P 37 26 = some (.iload 4, 2) := by decide +kernel
theorem kx_37_28 : x_code k_P 37 28 = some (.iload_n 1, 1) := by decide +kernel
theorem kx_37_29 : x_code k_P 37 29 = some (.if_icmp .ge 83, 3) := by decide +kernel
theorem kx_37_112 : x_code k_P 37 112 = some (.iinc 3 1, 3) := by decide +kernel
theorem kx_37_115 : x_code k_P 37 115 = some (.goto (-97), 3) := by decide +kernel
theorem kx_37_32 : x_code k_P 37 32 = some (.iconst 0, 1) := by decide +kernel
theorem kx_37_33 : x_code k_P 37 33 = some (.istore 5, 2) := by decide +kernel
theorem km_37_5 : 5 < x_maxL k_P 37 := by decide +kernel
theorem kx_37_35 : x_code k_P 37 35 = some (.iload 5, 2) := by decide +kernel
theorem kx_37_37 : x_code k_P 37 37 = some (.iload_n 1, 1) := by decide +kernel
theorem kx_37_38 : x_code k_P 37 38 = some (.if_icmp .ge 68, 3) := by decide +kernel
theorem kx_37_106 : x_code k_P 37 106 = some (.iinc 4 1, 3) := by decide +kernel
theorem kx_37_109 : x_code k_P 37 109 = some (.goto (-83), 3) := by decide +kernel
theorem kx_37_41 : x_code k_P 37 41 = some (.aload_n 0, 1) := by decide +kernel
theorem kx_37_42 : x_code k_P 37 42 = some (.getfield 9, 3) := by decide +kernel
theorem kp_37_9 : x_pool k_P 37 9 = (1, 4, 0) := by decide +kernel
theorem kx_37_45 : x_code k_P 37 45 = some (.iload 4, 2) := by decide +kernel
theorem kx_37_47 : x_code k_P 37 47 = some (.bipush 8, 2) := by decide +kernel
theorem kx_37_49 : x_code k_P 37 49 = some (.imul, 1) := by decide +kernel
theorem kx_37_50 : x_code k_P 37 50 = some (.iload 5, 2) := by decide +kernel
theorem kx_37_52 : x_code k_P 37 52 = some (.iadd, 1) := by decide +kernel
theorem kx_37_53 : x_code k_P 37 53 = some (.iaload, 1) := by decide +kernel
theorem kx_37_54 : x_code k_P 37 54 = some (.istore 6, 2) := by decide +kernel
theorem km_37_6 : 6 < x_maxL k_P 37 := by decide +kernel
theorem kx_37_56 : x_code k_P 37 56 = some (.iload 6, 2) := by decide +kernel
theorem kx_37_58 : x_code k_P 37 58 = some (.ifCond .le 42, 3) := by decide +kernel
theorem kx_37_100 : x_code k_P 37 100 = some (.iinc 5 1, 3) := by decide +kernel
theorem kx_37_103 : x_code k_P 37 103 = some (.goto (-68), 3) := by decide +kernel
theorem kx_37_61 : x_code k_P 37 61 = some (.aload_n 0, 1) := by decide +kernel
theorem kx_37_62 : x_code k_P 37 62 = some (.getfield 18, 3) := by decide +kernel
theorem kx_37_65 : x_code k_P 37 65 = some (.iload 5, 2) := by decide +kernel
theorem kx_37_67 : x_code k_P 37 67 = some (.iaload, 1) := by decide +kernel
theorem kx_37_68 : x_code k_P 37 68 = some (.ldc 74, 2) := by decide +kernel
theorem kx_37_70 : x_code k_P 37 70 = some (.if_icmp .ge 30, 3) := by decide +kernel
theorem kx_37_73 : x_code k_P 37 73 = some (.aload_n 0, 1) := by decide +kernel
theorem kx_37_74 : x_code k_P 37 74 = some (.getfield 18, 3) := by decide +kernel
theorem kx_37_77 : x_code k_P 37 77 = some (.iload 4, 2) := by decide +kernel
theorem kx_37_79 : x_code k_P 37 79 = some (.aload_n 0, 1) := by decide +kernel
theorem kx_37_80 : x_code k_P 37 80 = some (.getfield 18, 3) := by decide +kernel
theorem kx_37_83 : x_code k_P 37 83 = some (.iload 4, 2) := by decide +kernel
theorem kx_37_85 : x_code k_P 37 85 = some (.iaload, 1) := by decide +kernel
theorem kx_37_86 : x_code k_P 37 86 = some (.iload 6, 2) := by decide +kernel
theorem kx_37_88 : x_code k_P 37 88 = some (.aload_n 0, 1) := by decide +kernel
theorem kx_37_89 : x_code k_P 37 89 = some (.getfield 18, 3) := by decide +kernel
theorem kx_37_92 : x_code k_P 37 92 = some (.iload 5, 2) := by decide +kernel
theorem kx_37_94 : x_code k_P 37 94 = some (.iaload, 1) := by decide +kernel
theorem kx_37_95 : x_code k_P 37 95 = some (.iadd, 1) := by decide +kernel
theorem kx_37_96 : x_code k_P 37 96 = some (.invokestatic 78, 3) := by decide +kernel
theorem kp_37_78 : x_pool k_P 37 78 = (6, 299, 2) := by decide +kernel
theorem kx_37_99 : x_code k_P 37 99 = some (.iastore, 1) := by decide +kernel
def fS_37_l18 : List (Nat × Nat) := [(49, 99999)]
def fS_37_l26 : List (Nat × Nat) := [(49, 99999)]
def fS_37_l35 : List (Nat × Nat) := [(49, 99999)]
def fS_37_m : List (Nat × Nat) := [(49, 99999)]
theorem m_37 {xs : Nat → Int} {Ln d : Nat} {T : List cK} {M : cM} (hT : TT T) (hI : Rng M) {rooms to : Int} (p0 : 0 ≤ rooms ∧ rooms ≤ 8) (p1 : 0 ≤ to ∧ to ≤ 7) : cC k_P xs Ln (d + 1) 37 [rf 46, (0, rooms), (0, to)] (T, M) (qV T M fS_37_m (fun M1 => True)) := by
  show cP k_P xs Ln (d + 1) 37 0 [(0, rf 46), (1, (0, rooms)), (2, (0, to))] [] (T, M) _
  have hFm : Fr fS_37_m M M := Fr.refl
  refine s_aload_n kx_37_0 rfl ?_
  refine r_getR (k := 46) (f := 2) (k2 := 49) kx_37_1 kp_37_18 (tk_46 hT) kf_4_2 (by decide) (rq_46_2 hI) ?_
  refine s_ldc kx_37_4 kp_37_74 ?_
  refine s_callS2 (s1 := 2) (s2 := 0) (as := [(0, 1000000000), rf 49]) (rest := []) kx_37_6 kp_37_34 rfl kcl_301 rfl rfl (by decide) (m_301 (d := d) (val := 1000000000) hT hI (k := 49) (n := 8) (tk_49 hT) (by decide) (fun _ => ru_49)) (kV (fun M2 hI2 fr2 v1p => ?_))
  have hFm2 := hFm.call fr2 rfl
  refine s_aload_n kx_37_9 rfl ?_
  refine r_getR (k := 46) (f := 2) (k2 := 49) kx_37_10 kp_37_18 (tk_46 hT) kf_4_2 (by decide) (rq_46_2 hI2) ?_
  refine s_iload_n kx_37_13 rfl ?_
  refine s_iconst (v := 0) kx_37_14 (by decide) ?_
  refine r_ast (k := 49) kx_37_15 (tk_49 hT) ⟨by omega, by omega⟩ hI2 ru_49 (fun M3 hI3 u3 => ?_)
  have hFm3 := hFm2.up u3 rfl
  refine s_iconst (v := 1) kx_37_16 (by decide) ?_
  refine s_istore_n kx_37_17 km_37_3 rfl ?_
  have key6 : ∀ n7 : Nat, ∀ (x3_4 : Int), ∀ M5 : cM, Rng M5 → Fr fS_37_m M M5 → Fr fS_37_l18 M3 M5 → (1 ≤ x3_4) → (2147483647 - x3_4).toNat < n7 → cP k_P xs Ln (d + 1) 37 18 [(0, rf 46), (1, (0, rooms)), (3, (0, x3_4))] [] (T, M5) (qV T M fS_37_m (fun M1 => True)) := by
    intro n7
    induction n7 with
    | zero => intro x3_4 M5 hI5 hFm5 fl5 i8 hm9; exact absurd hm9 (Nat.not_lt_zero _)
    | succ n7 ih10 =>
      intro x3_4 M5 hI5 hFm5 fl5 i8 hm9
      refine s_iload_n kx_37_18 rfl ?_
      refine s_iload_n kx_37_19 rfl ?_
      refine s_icmp_ge (t := 118) kx_37_20 (by decide) (fun hc11 => ?_) (fun hc11 => ?_)
      · exact s_vret kx_37_118 kq_37 ⟨_, rfl, rfl, hI5, hFm5, trivial⟩
      · refine s_iconst (v := 0) kx_37_23 (by decide) ?_
        refine s_istore kx_37_24 km_37_4 rfl ?_
        have key14 : ∀ n15 : Nat, ∀ (x4_12 : Int), ∀ M13 : cM, Rng M13 → Fr fS_37_m M M13 → Fr fS_37_l18 M3 M13 → Fr fS_37_l26 M5 M13 → (0 ≤ x4_12) → (2147483647 - x4_12).toNat < n15 → cP k_P xs Ln (d + 1) 37 26 [(0, rf 46), (1, (0, rooms)), (3, (0, x3_4)), (4, (0, x4_12))] [] (T, M13) (qV T M fS_37_m (fun M1 => True)) := by
          intro n15
          induction n15 with
          | zero => intro x4_12 M13 hI13 hFm13 hFl1813 fl13 i16 hm17; exact absurd hm17 (Nat.not_lt_zero _)
          | succ n15 ih18 =>
            intro x4_12 M13 hI13 hFm13 hFl1813 fl13 i16 hm17
            refine s_iload kx_37_26 rfl ?_
            refine s_iload_n kx_37_28 rfl ?_
            refine s_icmp_ge (t := 112) kx_37_29 (by decide) (fun hc19 => ?_) (fun hc19 => ?_)
            · refine r_iinc kx_37_112 rfl km_37_3 (by decide) ⟨by omega, by omega⟩ rfl ?_
              refine s_goto (t := 18) kx_37_115 (by decide) ?_
              exact cP.wk (lS1 rfl (lS1 rfl (lS1 rfl lS0))) (ih10 (x3_4 + 1) M13 hI13 hFm13 hFl1813 (by omega) (by omega))
            · refine s_iconst (v := 0) kx_37_32 (by decide) ?_
              refine s_istore kx_37_33 km_37_5 rfl ?_
              have key22 : ∀ n23 : Nat, ∀ (x5_20 : Int), ∀ M21 : cM, Rng M21 → Fr fS_37_m M M21 → Fr fS_37_l18 M3 M21 → Fr fS_37_l26 M5 M21 → Fr fS_37_l35 M13 M21 → (0 ≤ x5_20) → (2147483647 - x5_20).toNat < n23 → cP k_P xs Ln (d + 1) 37 35 [(0, rf 46), (1, (0, rooms)), (3, (0, x3_4)), (4, (0, x4_12)), (5, (0, x5_20))] [] (T, M21) (qV T M fS_37_m (fun M1 => True)) := by
                intro n23
                induction n23 with
                | zero => intro x5_20 M21 hI21 hFm21 hFl1821 hFl2621 fl21 i24 hm25; exact absurd hm25 (Nat.not_lt_zero _)
                | succ n23 ih26 =>
                  intro x5_20 M21 hI21 hFm21 hFl1821 hFl2621 fl21 i24 hm25
                  refine s_iload kx_37_35 rfl ?_
                  refine s_iload_n kx_37_37 rfl ?_
                  refine s_icmp_ge (t := 106) kx_37_38 (by decide) (fun hc27 => ?_) (fun hc27 => ?_)
                  · refine r_iinc kx_37_106 rfl km_37_4 (by decide) ⟨by omega, by omega⟩ rfl ?_
                    refine s_goto (t := 26) kx_37_109 (by decide) ?_
                    exact cP.wk (lS1 rfl (lS1 rfl (lS1 rfl (lS1 rfl lS0)))) (ih18 (x4_12 + 1) M21 hI21 hFm21 hFl1821 hFl2621 (by omega) (by omega))
                  · refine s_aload_n kx_37_41 rfl ?_
                    refine r_getR (k := 46) (f := 0) (k2 := 47) kx_37_42 kp_37_9 (tk_46 hT) kf_4_0 (by decide) (rq_46_0 hI21) ?_
                    refine s_iload kx_37_45 rfl ?_
                    refine s_bipush (v := 8) kx_37_47 (by decide) ?_
                    refine r_mul kx_37_49 ⟨by omega, by omega⟩ ?_
                    refine s_iload kx_37_50 rfl ?_
                    refine r_add kx_37_52 ⟨by omega, by omega⟩ ?_
                    refine r_aldU (k := 47) kx_37_53 (tk_47 hT) ⟨by omega, by omega⟩ (fun v28 v28e => ?_)
                    refine s_istore kx_37_54 km_37_6 rfl ?_
                    refine s_iload kx_37_56 rfl ?_
                    refine s_if_le (t := 100) kx_37_58 (by decide) (fun hc29 => ?_) (fun hc29 => ?_)
                    · refine r_iinc kx_37_100 rfl km_37_5 (by decide) ⟨by omega, by omega⟩ rfl ?_
                      refine s_goto (t := 35) kx_37_103 (by decide) ?_
                      exact cP.wk (lS1 rfl (lS1 rfl (lS1 rfl (lS1 rfl (lS1 rfl lS0))))) (ih26 (x5_20 + 1) M21 hI21 hFm21 hFl1821 hFl2621 fl21 (by omega) (by omega))
                    · refine s_aload_n kx_37_61 rfl ?_
                      refine r_getR (k := 46) (f := 2) (k2 := 49) kx_37_62 kp_37_18 (tk_46 hT) kf_4_2 (by decide) (rq_46_2 hI21) ?_
                      refine s_iload kx_37_65 rfl ?_
                      refine r_aldU (k := 49) kx_37_67 (tk_49 hT) ⟨by omega, by omega⟩ (fun v30 v30e => ?_)
                      refine s_ldc kx_37_68 kp_37_74 ?_
                      refine s_icmp_ge (t := 100) kx_37_70 (by decide) (fun hc31 => ?_) (fun hc31 => ?_)
                      · refine r_iinc kx_37_100 rfl km_37_5 (by decide) ⟨by omega, by omega⟩ rfl ?_
                        refine s_goto (t := 35) kx_37_103 (by decide) ?_
                        exact cP.wk (lS1 rfl (lS1 rfl (lS1 rfl (lS1 rfl (lS1 rfl lS0))))) (ih26 (x5_20 + 1) M21 hI21 hFm21 hFl1821 hFl2621 fl21 (by omega) (by omega))
                      · refine s_aload_n kx_37_73 rfl ?_
                        refine r_getR (k := 46) (f := 2) (k2 := 49) kx_37_74 kp_37_18 (tk_46 hT) kf_4_2 (by decide) (rq_46_2 hI21) ?_
                        refine s_iload kx_37_77 rfl ?_
                        refine s_aload_n kx_37_79 rfl ?_
                        refine r_getR (k := 46) (f := 2) (k2 := 49) kx_37_80 kp_37_18 (tk_46 hT) kf_4_2 (by decide) (rq_46_2 hI21) ?_
                        refine s_iload kx_37_83 rfl ?_
                        refine r_aldU (k := 49) kx_37_85 (tk_49 hT) ⟨by omega, by omega⟩ (fun v32 v32e => ?_)
                        refine s_iload kx_37_86 rfl ?_
                        refine s_aload_n kx_37_88 rfl ?_
                        refine r_getR (k := 46) (f := 2) (k2 := 49) kx_37_89 kp_37_18 (tk_46 hT) kf_4_2 (by decide) (rq_46_2 hI21) ?_
                        refine s_iload kx_37_92 rfl ?_
                        refine r_aldK (k := 49) kx_37_94 (tk_49 hT) ⟨by omega, by omega⟩ v30e ?_
                        refine r_iaddR kx_37_95 (fun v33 v33a v33b => ?_)
                        refine s_callS2 (s1 := 2) (s2 := 2) (as := [(0, v33), (0, v32)]) (rest := [(0, x4_12), rf 49]) kx_37_96 kp_37_78 rfl kcl_299 rfl rfl (by decide) (m_299 (d := d) (a := v32) (b := v33) hT hI21) (kF (fun v34 v34p => ?_))
                        refine r_ast (k := 49) kx_37_99 (tk_49 hT) ⟨by omega, by omega⟩ hI21 ru_49 (fun M35 hI35 u35 => ?_)
                        have hFm35 := hFm21.up u35 rfl
                        have hFl1835 := hFl1821.up u35 rfl
                        have hFl2635 := hFl2621.up u35 rfl
                        have hFl3535 := fl21.up u35 rfl
                        refine r_iinc kx_37_100 rfl km_37_5 (by decide) ⟨by omega, by omega⟩ rfl ?_
                        refine s_goto (t := 35) kx_37_103 (by decide) ?_
                        exact cP.wk (lS1 rfl (lS1 rfl (lS1 rfl (lS1 rfl (lS1 rfl lS0))))) (ih26 (x5_20 + 1) M35 hI35 hFm35 hFl1835 hFl2635 hFl3535 (by omega) (by omega))
              exact cP.wk (lS1 rfl (lS1 rfl (lS1 rfl (lS1 rfl (lS1 rfl lS0))))) (key22 _ 0 M13 hI13 hFm13 hFl1813 fl13 Fr.refl (by omega) (Nat.lt_succ_self _))
        exact cP.wk (lS1 rfl (lS1 rfl (lS1 rfl (lS1 rfl lS0)))) (key14 _ 0 M5 hI5 hFm5 fl5 Fr.refl (by omega) (Nat.lt_succ_self _))
  exact cP.wk (lS1 rfl (lS1 rfl (lS1 rfl lS0))) (key6 _ 1 M3 hI3 hFm3 Fr.refl (by omega) (Nat.lt_succ_self _))
theorem kx_38_0 : x_code k_P 38 0 = some (.iconst 0, 1) := by decide +kernel
theorem kx_38_1 : x_code k_P 38 1 = some (.istore_n 3, 1) := by decide +kernel
theorem km_38_3 : 3 < x_maxL k_P 38 := by decide +kernel
theorem kx_38_2 : x_code k_P 38 2 = some (.iload_n 3, 1) := by decide +kernel
theorem kx_38_3 : x_code k_P 38 3 = some (.iload_n 1, 1) := by decide +kernel
theorem kx_38_4 : x_code k_P 38 4 = some (.if_icmp .ge 47, 3) := by decide +kernel
theorem kx_38_51 : x_code k_P 38 51 = some (.iload_n 2, 1) := by decide +kernel
theorem kx_38_52 : x_code k_P 38 52 = some (.ireturn, 1) := by decide +kernel
theorem kq_38 : x_retk k_P 38 = 1 := by decide +kernel
theorem kx_38_7 : x_code k_P 38 7 = some (.aload_n 0, 1) := by decide +kernel
theorem kx_38_8 : x_code k_P 38 8 = some (.getfield 9, 3) := by decide +kernel
theorem kp_38_9 : x_pool k_P 38 9 = (1, 4, 0) := by decide +kernel
theorem kx_38_11 : x_code k_P 38 11 = some (.iload_n 2, 1) := by decide +kernel
theorem kx_38_12 : x_code k_P 38 12 = some (.bipush 8, 2) := by decide +kernel
theorem kx_38_14 : x_code k_P 38 14 = some (.imul, 1) := by decide +kernel
theorem kx_38_15 : x_code k_P 38 15 = some (.iload_n 3, 1) := by decide +kernel
theorem kx_38_16 : x_code k_P 38 16 = some (.iadd, 1) := by decide +kernel
theorem kx_38_17 : x_code k_P 38 17 = some (.iaload, 1) := by decide +kernel
theorem kx_38_18 : x_code k_P 38 18 = some (.istore 4, 2) := by decide +kernel
theorem km_38_4 : 4 < x_maxL k_P 38 := by decide +kernel
theorem kx_38_20 : x_code k_P 38 20 = some (.iload 4, 2) := by decide +kernel
theorem kx_38_22 : x_code k_P 38 22 = some (.ifCond .le 23, 3) := by decide +kernel
theorem kx_38_45 : x_code k_P 38 45 = some (.iinc 3 1, 3) := by decide +kernel
theorem kx_38_48 : x_code k_P 38 48 = some (.goto (-46), 3) := by decide +kernel
theorem kx_38_25 : x_code k_P 38 25 = some (.iload 4, 2) := by decide +kernel
theorem kx_38_27 : x_code k_P 38 27 = some (.aload_n 0, 1) := by decide +kernel
theorem kx_38_28 : x_code k_P 38 28 = some (.getfield 18, 3) := by decide +kernel
theorem kp_38_18 : x_pool k_P 38 18 = (1, 4, 2) := by decide +kernel
theorem kx_38_31 : x_code k_P 38 31 = some (.iload_n 3, 1) := by decide +kernel
theorem kx_38_32 : x_code k_P 38 32 = some (.iaload, 1) := by decide +kernel
theorem kx_38_33 : x_code k_P 38 33 = some (.iadd, 1) := by decide +kernel
theorem kx_38_34 : x_code k_P 38 34 = some (.aload_n 0, 1) := by decide +kernel
theorem kx_38_35 : x_code k_P 38 35 = some (.getfield 18, 3) := by decide +kernel
theorem kx_38_38 : x_code k_P 38 38 = some (.iload_n 2, 1) := by decide +kernel
theorem kx_38_39 : x_code k_P 38 39 = some (.iaload, 1) := by decide +kernel
theorem kx_38_40 : x_code k_P 38 40 = some (.if_icmp .ne 5, 3) := by decide +kernel
theorem kx_38_43 : x_code k_P 38 43 = some (.iload_n 3, 1) := by decide +kernel
theorem kx_38_44 : x_code k_P 38 44 = some (.ireturn, 1) := by decide +kernel
theorem m_38 {xs : Nat → Int} {Ln d : Nat} {T : List cK} {M : cM} (hT : TT T) (hI : Rng M) {rooms at_ : Int} (p0 : 0 ≤ rooms ∧ rooms ≤ 8) (p1 : 0 ≤ at_ ∧ at_ ≤ 7) : cC k_P xs Ln (d + 0) 38 [rf 46, (0, rooms), (0, at_)] (T, M) (qF T M 0 (fun v => 0 ≤ v ∧ v ≤ 7)) := by
  show cP k_P xs Ln (d + 0) 38 0 [(0, rf 46), (1, (0, rooms)), (2, (0, at_))] [] (T, M) _
  refine s_iconst (v := 0) kx_38_0 (by decide) ?_
  refine s_istore_n kx_38_1 km_38_3 rfl ?_
  have key2 : ∀ n3 : Nat, ∀ (x3_1 : Int), (0 ≤ x3_1) → (2147483647 - x3_1).toNat < n3 → cP k_P xs Ln (d + 0) 38 2 [(0, rf 46), (1, (0, rooms)), (2, (0, at_)), (3, (0, x3_1))] [] (T, M) (qF T M 0 (fun v => 0 ≤ v ∧ v ≤ 7)) := by
    intro n3
    induction n3 with
    | zero => intro x3_1 i4 hm5; exact absurd hm5 (Nat.not_lt_zero _)
    | succ n3 ih6 =>
      intro x3_1 i4 hm5
      refine s_iload_n kx_38_2 rfl ?_
      refine s_iload_n kx_38_3 rfl ?_
      refine s_icmp_ge (t := 51) kx_38_4 (by decide) (fun hc7 => ?_) (fun hc7 => ?_)
      · refine s_iload_n kx_38_51 rfl ?_
        exact s_iret kx_38_52 (Or.inl kq_38) ⟨_, rfl, rfl, (by omega)⟩
      · refine s_aload_n kx_38_7 rfl ?_
        refine r_getR (k := 46) (f := 0) (k2 := 47) kx_38_8 kp_38_9 (tk_46 hT) kf_4_0 (by decide) (rq_46_0 hI) ?_
        refine s_iload_n kx_38_11 rfl ?_
        refine s_bipush (v := 8) kx_38_12 (by decide) ?_
        refine r_mul kx_38_14 ⟨by omega, by omega⟩ ?_
        refine s_iload_n kx_38_15 rfl ?_
        refine r_add kx_38_16 ⟨by omega, by omega⟩ ?_
        refine r_aldU (k := 47) kx_38_17 (tk_47 hT) ⟨by omega, by omega⟩ (fun v8 v8e => ?_)
        refine s_istore kx_38_18 km_38_4 rfl ?_
        refine s_iload kx_38_20 rfl ?_
        refine s_if_le (t := 45) kx_38_22 (by decide) (fun hc9 => ?_) (fun hc9 => ?_)
        · refine r_iinc kx_38_45 rfl km_38_3 (by decide) ⟨by omega, by omega⟩ rfl ?_
          refine s_goto (t := 2) kx_38_48 (by decide) ?_
          exact cP.wk (lS1 rfl (lS1 rfl (lS1 rfl (lS1 rfl lS0)))) (ih6 (x3_1 + 1) (by omega) (by omega))
        · refine s_iload kx_38_25 rfl ?_
          refine s_aload_n kx_38_27 rfl ?_
          refine r_getR (k := 46) (f := 2) (k2 := 49) kx_38_28 kp_38_18 (tk_46 hT) kf_4_2 (by decide) (rq_46_2 hI) ?_
          refine s_iload_n kx_38_31 rfl ?_
          refine r_aldU (k := 49) kx_38_32 (tk_49 hT) ⟨by omega, by omega⟩ (fun v10 v10e => ?_)
          refine r_iaddR kx_38_33 (fun v11 v11a v11b => ?_)
          refine s_aload_n kx_38_34 rfl ?_
          refine r_getR (k := 46) (f := 2) (k2 := 49) kx_38_35 kp_38_18 (tk_46 hT) kf_4_2 (by decide) (rq_46_2 hI) ?_
          refine s_iload_n kx_38_38 rfl ?_
          refine r_aldU (k := 49) kx_38_39 (tk_49 hT) ⟨by omega, by omega⟩ (fun v12 v12e => ?_)
          refine s_icmp_ne (t := 45) kx_38_40 (by decide) (fun hc13 => ?_) (fun hc13 => ?_)
          · refine r_iinc kx_38_45 rfl km_38_3 (by decide) ⟨by omega, by omega⟩ rfl ?_
            refine s_goto (t := 2) kx_38_48 (by decide) ?_
            exact cP.wk (lS1 rfl (lS1 rfl (lS1 rfl (lS1 rfl lS0)))) (ih6 (x3_1 + 1) (by omega) (by omega))
          · refine s_iload_n kx_38_43 rfl ?_
            exact s_iret kx_38_44 (Or.inl kq_38) ⟨_, rfl, rfl, (by omega)⟩
  exact cP.wk (lS1 rfl (lS1 rfl (lS1 rfl (lS1 rfl lS0)))) (key2 _ 0 (by omega) (Nat.lt_succ_self _))
theorem kx_36_0 : x_code k_P 36 0 = some (.aload_n 0, 1) := by decide +kernel
theorem kx_36_1 : x_code k_P 36 1 = some (.iconst 0, 1) := by decide +kernel
theorem kx_36_2 : x_code k_P 36 2 = some (.putfield 28, 3) := by decide +kernel
theorem kp_36_28 : x_pool k_P 36 28 = (1, 4, 5) := by decide +kernel
theorem kf_4_5 : (x_cls k_P 4)[5]? = some 0 := by decide +kernel
theorem kx_36_5 : x_code k_P 36 5 = some (.aload_n 0, 1) := by decide +kernel
theorem kx_36_6 : x_code k_P 36 6 = some (.iload_n 2, 1) := by decide +kernel
theorem kx_36_7 : x_code k_P 36 7 = some (.putfield 24, 3) := by decide +kernel
theorem kp_36_24 : x_pool k_P 36 24 = (1, 4, 4) := by decide +kernel
theorem kf_4_4 : (x_cls k_P 4)[4]? = some 0 := by decide +kernel
theorem kx_36_10 : x_code k_P 36 10 = some (.aload_n 0, 1) := by decide +kernel
theorem kx_36_11 : x_code k_P 36 11 = some (.iload_n 1, 1) := by decide +kernel
theorem kx_36_12 : x_code k_P 36 12 = some (.iload_n 3, 1) := by decide +kernel
theorem kx_36_13 : x_code k_P 36 13 = some (.invokevirtual 70, 3) := by decide +kernel
theorem kp_36_70 : x_pool k_P 36 70 = (2, 37, 2) := by decide +kernel
theorem ki_37 : x_mci k_P 37 = 4 := by decide +kernel
theorem kcl_37 : x_maxL k_P 37 ≤ 60 ∧ 3 ≤ x_maxL k_P 37 := by decide +kernel
theorem kx_36_16 : x_code k_P 36 16 = some (.aload_n 0, 1) := by decide +kernel
theorem kx_36_17 : x_code k_P 36 17 = some (.aload_n 0, 1) := by decide +kernel
theorem kx_36_18 : x_code k_P 36 18 = some (.getfield 18, 3) := by decide +kernel
theorem kp_36_18 : x_pool k_P 36 18 = (1, 4, 2) := by decide +kernel
theorem kx_36_21 : x_code k_P 36 21 = some (.iload_n 2, 1) := by decide +kernel
theorem kx_36_22 : x_code k_P 36 22 = some (.iaload, 1) := by decide +kernel
theorem kx_36_23 : x_code k_P 36 23 = some (.ldc 74, 2) := by decide +kernel
theorem kp_36_74 : x_pool k_P 36 74 = (7, 0, 1000000000) := by decide +kernel
theorem kx_36_25 : x_code k_P 36 25 = some (.if_icmp .ge 12, 3) := by decide +kernel
theorem kx_36_37 : x_code k_P 36 37 = some (.iconst (-1), 1) := by decide +kernel
theorem kx_36_28 : x_code k_P 36 28 = some (.aload_n 0, 1) := by decide +kernel
theorem kx_36_29 : x_code k_P 36 29 = some (.getfield 18, 3) := by decide +kernel
theorem kx_36_32 : x_code k_P 36 32 = some (.iload_n 2, 1) := by decide +kernel
theorem kx_36_33 : x_code k_P 36 33 = some (.iaload, 1) := by decide +kernel
theorem kx_36_34 : x_code k_P 36 34 = some (.goto 4, 3) := by decide +kernel
theorem kx_36_38 : x_code k_P 36 38 = some (.putfield 31, 3) := by decide +kernel
theorem kp_36_31 : x_pool k_P 36 31 = (1, 4, 6) := by decide +kernel
theorem kf_4_6 : (x_cls k_P 4)[6]? = some 0 := by decide +kernel
theorem kx_36_41 : x_code k_P 36 41 = some (.iload_n 2, 1) := by decide +kernel
theorem kx_36_42 : x_code k_P 36 42 = some (.istore 4, 2) := by decide +kernel
theorem km_36_4 : 4 < x_maxL k_P 36 := by decide +kernel
theorem kx_36_44 : x_code k_P 36 44 = some (.iconst 0, 1) := by decide +kernel
theorem kx_36_45 : x_code k_P 36 45 = some (.istore 5, 2) := by decide +kernel
theorem km_36_5 : 5 < x_maxL k_P 36 := by decide +kernel
theorem kx_36_47 : x_code k_P 36 47 = some (.iload 5, 2) := by decide +kernel
theorem kx_36_49 : x_code k_P 36 49 = some (.iload_n 1, 1) := by decide +kernel
theorem kx_36_50 : x_code k_P 36 50 = some (.if_icmp .ge 53, 3) := by decide +kernel
theorem kx_36_103 : x_code k_P 36 103 = some (.return_, 1) := by decide +kernel
theorem kq_36 : x_retk k_P 36 = 0 := by decide +kernel
theorem kx_36_53 : x_code k_P 36 53 = some (.iload 4, 2) := by decide +kernel
theorem kx_36_55 : x_code k_P 36 55 = some (.iload_n 3, 1) := by decide +kernel
theorem kx_36_56 : x_code k_P 36 56 = some (.if_icmp .eq 47, 3) := by decide +kernel
theorem kx_36_59 : x_code k_P 36 59 = some (.aload_n 0, 1) := by decide +kernel
theorem kx_36_60 : x_code k_P 36 60 = some (.getfield 31, 3) := by decide +kernel
theorem kx_36_63 : x_code k_P 36 63 = some (.iconst (-1), 1) := by decide +kernel
theorem kx_36_64 : x_code k_P 36 64 = some (.if_icmp .eq 39, 3) := by decide +kernel
theorem kx_36_67 : x_code k_P 36 67 = some (.aload_n 0, 1) := by decide +kernel
theorem kx_36_68 : x_code k_P 36 68 = some (.iload_n 1, 1) := by decide +kernel
theorem kx_36_69 : x_code k_P 36 69 = some (.iload 4, 2) := by decide +kernel
theorem kx_36_71 : x_code k_P 36 71 = some (.invokevirtual 75, 3) := by decide +kernel
theorem kp_36_75 : x_pool k_P 36 75 = (2, 38, 2) := by decide +kernel
theorem ki_38 : x_mci k_P 38 = 4 := by decide +kernel
theorem kcl_38 : x_maxL k_P 38 ≤ 60 ∧ 3 ≤ x_maxL k_P 38 := by decide +kernel
theorem kx_36_74 : x_code k_P 36 74 = some (.istore 4, 2) := by decide +kernel
theorem kx_36_76 : x_code k_P 36 76 = some (.aload_n 0, 1) := by decide +kernel
theorem kx_36_77 : x_code k_P 36 77 = some (.getfield 21, 3) := by decide +kernel
theorem kp_36_21 : x_pool k_P 36 21 = (1, 4, 3) := by decide +kernel
theorem kf_4_3 : (x_cls k_P 4)[3]? = some 12 := by decide +kernel
theorem kx_36_80 : x_code k_P 36 80 = some (.aload_n 0, 1) := by decide +kernel
theorem kx_36_81 : x_code k_P 36 81 = some (.getfield 28, 3) := by decide +kernel
theorem kx_36_84 : x_code k_P 36 84 = some (.iload 4, 2) := by decide +kernel
theorem kx_36_86 : x_code k_P 36 86 = some (.iastore, 1) := by decide +kernel
theorem kx_36_87 : x_code k_P 36 87 = some (.aload_n 0, 1) := by decide +kernel
theorem kx_36_88 : x_code k_P 36 88 = some (.dup, 1) := by decide +kernel
theorem kx_36_89 : x_code k_P 36 89 = some (.getfield 28, 3) := by decide +kernel
theorem kx_36_92 : x_code k_P 36 92 = some (.iconst 1, 1) := by decide +kernel
theorem kx_36_93 : x_code k_P 36 93 = some (.iadd, 1) := by decide +kernel
theorem kx_36_94 : x_code k_P 36 94 = some (.putfield 28, 3) := by decide +kernel
theorem kx_36_97 : x_code k_P 36 97 = some (.iinc 5 1, 3) := by decide +kernel
theorem kx_36_100 : x_code k_P 36 100 = some (.goto (-53), 3) := by decide +kernel
def fS_36_l47 : List (Nat × Nat) := [(46, 5), (50, 99999)]
def fS_36_m : List (Nat × Nat) := [(46, 4), (46, 5), (46, 6), (49, 99999), (50, 99999)]
def fS_36_j25 : List (Nat × Nat) := []
theorem m_36 {xs : Nat → Int} {Ln d : Nat} {T : List cK} {M : cM} (hT : TT T) (hI : Rng M) {rooms from_ to : Int} (p0 : 0 ≤ rooms ∧ rooms ≤ 8) (p1 : 0 ≤ from_ ∧ from_ ≤ 7) (p2 : 0 ≤ to ∧ to ≤ 7) : cC k_P xs Ln (d + 2) 36 [rf 46, (0, rooms), (0, from_), (0, to)] (T, M) (qV T M fS_36_m (fun M1 => True)) := by
  show cP k_P xs Ln (d + 2) 36 0 [(0, rf 46), (1, (0, rooms)), (2, (0, from_)), (3, (0, to))] [] (T, M) _
  have hFm : Fr fS_36_m M M := Fr.refl
  refine s_aload_n kx_36_0 rfl ?_
  refine s_iconst (v := 0) kx_36_1 (by decide) ?_
  refine r_put (k := 46) (f := 5) kx_36_2 kp_36_28 (tk_46 hT) kf_4_5 rfl (by decide) (by decide) hI (ru_46_5 (by omega) (by omega)) (fun M1 hI1 u1 => ?_)
  have hFm1 := hFm.up u1 rfl
  refine s_aload_n kx_36_5 rfl ?_
  refine s_iload_n kx_36_6 rfl ?_
  refine r_put (k := 46) (f := 4) kx_36_7 kp_36_24 (tk_46 hT) kf_4_4 rfl (by decide) (by decide) hI1 (ru_46_4 (by omega) (by omega)) (fun M2 hI2 u2 => ?_)
  have hFm2 := hFm1.up u2 rfl
  refine s_aload_n kx_36_10 rfl ?_
  refine s_iload_n kx_36_11 rfl ?_
  refine s_iload_n kx_36_12 rfl ?_
  refine s_callV2 (k := 46) (s1 := 3) (s2 := 0) (as := [(0, to), (0, rooms)]) (rest := []) kx_36_13 kp_36_70 (Or.inl rfl) rfl (tk_46 hT) ki_37 kcl_37 rfl rfl (by decide) (m_37 (d := d) (rooms := rooms) (to := to) hT hI2 (by omega) (by omega)) (kV (fun M4 hI4 fr4 v3p => ?_))
  have hFm4 := hFm2.call fr4 rfl
  refine s_aload_n kx_36_16 rfl ?_
  refine s_aload_n kx_36_17 rfl ?_
  refine r_getR (k := 46) (f := 2) (k2 := 49) kx_36_18 kp_36_18 (tk_46 hT) kf_4_2 (by decide) (rq_46_2 hI4) ?_
  refine s_iload_n kx_36_21 rfl ?_
  refine r_aldU (k := 49) kx_36_22 (tk_49 hT) ⟨by omega, by omega⟩ (fun v5 v5e => ?_)
  refine s_ldc kx_36_23 kp_36_74 ?_
  have jn10 : ∀ (y9 : Int), (y9 ≤ 999999999) → cP k_P xs Ln (d + 2) 36 38 [(0, rf 46), (1, (0, rooms)), (2, (0, from_)), (3, (0, to))] [(0, y9), rf 46] (T, M4) (qV T M fS_36_m (fun M1 => True)) := by
    intro y9 a11
    refine r_put (k := 46) (f := 6) kx_36_38 kp_36_31 (tk_46 hT) kf_4_6 rfl (by decide) (by decide) hI4 ru_46_6 (fun M12 hI12 u12 => ?_)
    have hFm12 := hFm4.up u12 rfl
    refine s_iload_n kx_36_41 rfl ?_
    refine s_istore kx_36_42 km_36_4 rfl ?_
    refine s_iconst (v := 0) kx_36_44 (by decide) ?_
    refine s_istore kx_36_45 km_36_5 rfl ?_
    have key16 : ∀ n17 : Nat, ∀ (x4_13 x5_14 : Int), ∀ M15 : cM, Rng M15 → Fr fS_36_m M M15 → Fr fS_36_l47 M12 M15 → (0 ≤ x4_13) → (x4_13 ≤ 7) → (0 ≤ x5_14) → (0 ≤ M15 46 5) → (M15 46 5 ≤ x5_14) → (2147483647 - x5_14).toNat < n17 → cP k_P xs Ln (d + 2) 36 47 [(0, rf 46), (1, (0, rooms)), (3, (0, to)), (4, (0, x4_13)), (5, (0, x5_14))] [] (T, M15) (qV T M fS_36_m (fun M1 => True)) := by
      intro n17
      induction n17 with
      | zero => intro x4_13 x5_14 M15 hI15 hFm15 fl15 i18 i19 i20 i21 i22 hm23; exact absurd hm23 (Nat.not_lt_zero _)
      | succ n17 ih24 =>
        intro x4_13 x5_14 M15 hI15 hFm15 fl15 i18 i19 i20 i21 i22 hm23
        refine s_iload kx_36_47 rfl ?_
        refine s_iload_n kx_36_49 rfl ?_
        refine s_icmp_ge (t := 103) kx_36_50 (by decide) (fun hc25 => ?_) (fun hc25 => ?_)
        · exact s_vret kx_36_103 kq_36 ⟨_, rfl, rfl, hI15, hFm15, trivial⟩
        · refine s_iload kx_36_53 rfl ?_
          refine s_iload_n kx_36_55 rfl ?_
          refine s_icmp_eq (t := 103) kx_36_56 (by decide) (fun hc26 => ?_) (fun hc26 => ?_)
          · exact s_vret kx_36_103 kq_36 ⟨_, rfl, rfl, hI15, hFm15, trivial⟩
          · refine s_aload_n kx_36_59 rfl ?_
            refine r_getK (k := 46) (f := 6) kx_36_60 kp_36_31 (tk_46 hT) kf_4_6 (fun _ => rfl) ((fl15 46 6 rfl).trans u12.1) ?_
            refine s_iconst (v := (-1)) kx_36_63 (by decide) ?_
            refine s_icmp_eq (t := 103) kx_36_64 (by decide) (fun hc27 => ?_) (fun hc27 => ?_)
            · exact s_vret kx_36_103 kq_36 ⟨_, rfl, rfl, hI15, hFm15, trivial⟩
            · refine s_aload_n kx_36_67 rfl ?_
              refine s_iload_n kx_36_68 rfl ?_
              refine s_iload kx_36_69 rfl ?_
              refine s_callV2 (k := 46) (s1 := 3) (s2 := 0) (as := [(0, x4_13), (0, rooms)]) (rest := []) kx_36_71 kp_36_75 (Or.inl rfl) rfl (tk_46 hT) ki_38 kcl_38 rfl rfl (by decide) (m_38 (d := d + 1) (rooms := rooms) (at_ := x4_13) hT hI15 (by omega) (by omega)) (kF (fun v28 v28p => ?_))
              refine s_istore kx_36_74 km_36_4 rfl ?_
              refine s_aload_n kx_36_76 rfl ?_
              refine r_getR (k := 46) (f := 3) (k2 := 50) kx_36_77 kp_36_21 (tk_46 hT) kf_4_3 (by decide) (rq_46_3 hI15) ?_
              refine s_aload_n kx_36_80 rfl ?_
              refine r_getI (k := 46) (f := 5) kx_36_81 kp_36_28 (tk_46 hT) kf_4_5 (fun _ => rfl) (rg_46_5 hI15) (fun v29 v29e v29a v29b => ?_)
              refine s_iload kx_36_84 rfl ?_
              refine r_ast (k := 50) kx_36_86 (tk_50 hT) ⟨by omega, by omega⟩ hI15 (ru_50 (by omega) (by omega)) (fun M30 hI30 u30 => ?_)
              have hFm30 := hFm15.up u30 rfl
              have hFl4730 := fl15.up u30 rfl
              refine s_aload_n kx_36_87 rfl ?_
              refine s_dup kx_36_88 rfl ?_
              refine r_getK (k := 46) (f := 5) kx_36_89 kp_36_28 (tk_46 hT) kf_4_5 (fun _ => rfl) ((u30.2 46 5 (by omega)).trans v29e) ?_
              refine s_iconst (v := 1) kx_36_92 (by decide) ?_
              refine r_add kx_36_93 ⟨by omega, by omega⟩ ?_
              refine r_put (k := 46) (f := 5) kx_36_94 kp_36_28 (tk_46 hT) kf_4_5 rfl (by decide) (by decide) hI30 (ru_46_5 (by omega) (by omega)) (fun M31 hI31 u31 => ?_)
              have hFm31 := hFm30.up u31 rfl
              have hFl4731 := hFl4730.up u31 rfl
              refine r_iinc kx_36_97 rfl km_36_5 (by decide) ⟨by omega, by omega⟩ rfl ?_
              refine s_goto (t := 47) kx_36_100 (by decide) ?_
              have hk32 : M31 46 5 = (v29 + 1) := u31.1
              exact cP.wk (lS1 rfl (lS1 rfl (lS1 rfl (lS1 rfl (lS1 rfl lS0))))) (ih24 v28 (x5_14 + 1) M31 hI31 hFm31 hFl4731 (by omega) (by omega) (by omega) (by omega) (by omega) (by omega))
    have hk33 : M12 46 5 = 0 := ((u12.2 46 5 (by omega)).trans ((fr4 46 5 rfl).trans ((u2.2 46 5 (by omega)).trans u1.1)))
    exact cP.wk (lS1 rfl (lS1 rfl (lS1 rfl (lS1 rfl (lS1 rfl lS0))))) (key16 _ from_ 0 M12 hI12 hFm12 Fr.refl (by omega) (by omega) (by omega) (by omega) (by omega) (Nat.lt_succ_self _))
  refine s_icmp_ge (t := 37) kx_36_25 (by decide) (fun hc6 => ?_) (fun hc6 => ?_)
  · have hJ7 : Fr fS_36_j25 M4 M4 := Fr.refl
    refine s_iconst (v := (-1)) kx_36_37 (by decide) ?_
    exact cP.wk (lS1 rfl (lS1 rfl (lS1 rfl (lS1 rfl lS0)))) (jn10 (-1) (by omega))
  · have hJ8 : Fr fS_36_j25 M4 M4 := Fr.refl
    refine s_aload_n kx_36_28 rfl ?_
    refine r_getR (k := 46) (f := 2) (k2 := 49) kx_36_29 kp_36_18 (tk_46 hT) kf_4_2 (by decide) (rq_46_2 hI4) ?_
    refine s_iload_n kx_36_32 rfl ?_
    refine r_aldK (k := 49) kx_36_33 (tk_49 hT) ⟨by omega, by omega⟩ v5e ?_
    refine s_goto (t := 38) kx_36_34 (by decide) ?_
    exact cP.wk (lS1 rfl (lS1 rfl (lS1 rfl (lS1 rfl lS0)))) (jn10 v5 (by omega))
theorem kx_39_0 : x_code k_P 39 0 = some (.iload_n 1, 1) := by decide +kernel
theorem kx_39_1 : x_code k_P 39 1 = some (.ifCond .lt 20, 3) := by decide +kernel
theorem kx_39_21 : x_code k_P 39 21 = some (.iconst (-1), 1) := by decide +kernel
theorem kx_39_22 : x_code k_P 39 22 = some (.ireturn, 1) := by decide +kernel
theorem kq_39 : x_retk k_P 39 = 1 := by decide +kernel
theorem kx_39_4 : x_code k_P 39 4 = some (.iload_n 1, 1) := by decide +kernel
theorem kx_39_5 : x_code k_P 39 5 = some (.aload_n 0, 1) := by decide +kernel
theorem kx_39_6 : x_code k_P 39 6 = some (.getfield 28, 3) := by decide +kernel
theorem kp_39_28 : x_pool k_P 39 28 = (1, 4, 5) := by decide +kernel
theorem kx_39_9 : x_code k_P 39 9 = some (.if_icmp .ge 12, 3) := by decide +kernel
theorem kx_39_12 : x_code k_P 39 12 = some (.aload_n 0, 1) := by decide +kernel
theorem kx_39_13 : x_code k_P 39 13 = some (.getfield 21, 3) := by decide +kernel
theorem kp_39_21 : x_pool k_P 39 21 = (1, 4, 3) := by decide +kernel
theorem kx_39_16 : x_code k_P 39 16 = some (.iload_n 1, 1) := by decide +kernel
theorem kx_39_17 : x_code k_P 39 17 = some (.iaload, 1) := by decide +kernel
theorem kx_39_18 : x_code k_P 39 18 = some (.goto 4, 3) := by decide +kernel
theorem m_39 {xs : Nat → Int} {Ln d : Nat} {T : List cK} {M : cM} (hT : TT T) (hI : Rng M) {k : Int} : cC k_P xs Ln (d + 0) 39 [rf 46, (0, k)] (T, M) (qF T M 0 (fun v => True)) := by
  show cP k_P xs Ln (d + 0) 39 0 [(0, rf 46), (1, (0, k))] [] (T, M) _
  refine s_iload_n kx_39_0 rfl ?_
  refine s_if_lt (t := 21) kx_39_1 (by decide) (fun hc1 => ?_) (fun hc1 => ?_)
  · refine s_iconst (v := (-1)) kx_39_21 (by decide) ?_
    exact s_iret kx_39_22 (Or.inl kq_39) ⟨_, rfl, rfl, trivial⟩
  · refine s_iload_n kx_39_4 rfl ?_
    refine s_aload_n kx_39_5 rfl ?_
    refine r_getI (k := 46) (f := 5) kx_39_6 kp_39_28 (tk_46 hT) kf_4_5 (fun _ => rfl) (rg_46_5 hI) (fun v2 v2e v2a v2b => ?_)
    refine s_icmp_ge (t := 21) kx_39_9 (by decide) (fun hc3 => ?_) (fun hc3 => ?_)
    · refine s_iconst (v := (-1)) kx_39_21 (by decide) ?_
      exact s_iret kx_39_22 (Or.inl kq_39) ⟨_, rfl, rfl, trivial⟩
    · refine s_aload_n kx_39_12 rfl ?_
      refine r_getR (k := 46) (f := 3) (k2 := 50) kx_39_13 kp_39_21 (tk_46 hT) kf_4_3 (by decide) (rq_46_3 hI) ?_
      refine s_iload_n kx_39_16 rfl ?_
      refine r_ald (k := 50) kx_39_17 (tk_50 hT) ⟨by omega, by omega⟩ (rg_50 hI) (fun v4 v4e v4a v4b => ?_)
      refine s_goto (t := 22) kx_39_18 (by decide) ?_
      exact s_iret kx_39_22 (Or.inl kq_39) ⟨_, rfl, rfl, trivial⟩
theorem kx_40_0 : x_code k_P 40 0 = some (.iload_n 1, 1) := by decide +kernel
theorem kx_40_1 : x_code k_P 40 1 = some (.ifCond .lt 11, 3) := by decide +kernel
theorem kx_40_12 : x_code k_P 40 12 = some (.iconst (-1), 1) := by decide +kernel
theorem kx_40_13 : x_code k_P 40 13 = some (.ireturn, 1) := by decide +kernel
theorem kq_40 : x_retk k_P 40 = 1 := by decide +kernel
theorem kx_40_4 : x_code k_P 40 4 = some (.iload_n 1, 1) := by decide +kernel
theorem kx_40_5 : x_code k_P 40 5 = some (.aload_n 0, 1) := by decide +kernel
theorem kx_40_6 : x_code k_P 40 6 = some (.getfield 28, 3) := by decide +kernel
theorem kp_40_28 : x_pool k_P 40 28 = (1, 4, 5) := by decide +kernel
theorem kx_40_9 : x_code k_P 40 9 = some (.if_icmp .lt 5, 3) := by decide +kernel
theorem kx_40_14 : x_code k_P 40 14 = some (.iload_n 1, 1) := by decide +kernel
theorem kx_40_15 : x_code k_P 40 15 = some (.ifCond .ne 10, 3) := by decide +kernel
theorem kx_40_25 : x_code k_P 40 25 = some (.aload_n 0, 1) := by decide +kernel
theorem kx_40_26 : x_code k_P 40 26 = some (.getfield 21, 3) := by decide +kernel
theorem kp_40_21 : x_pool k_P 40 21 = (1, 4, 3) := by decide +kernel
theorem kx_40_29 : x_code k_P 40 29 = some (.iload_n 1, 1) := by decide +kernel
theorem kx_40_30 : x_code k_P 40 30 = some (.iconst 1, 1) := by decide +kernel
theorem kx_40_31 : x_code k_P 40 31 = some (.isub, 1) := by decide +kernel
theorem kx_40_32 : x_code k_P 40 32 = some (.iaload, 1) := by decide +kernel
theorem kx_40_18 : x_code k_P 40 18 = some (.aload_n 0, 1) := by decide +kernel
theorem kx_40_19 : x_code k_P 40 19 = some (.getfield 24, 3) := by decide +kernel
theorem kp_40_24 : x_pool k_P 40 24 = (1, 4, 4) := by decide +kernel
theorem kx_40_22 : x_code k_P 40 22 = some (.goto 11, 3) := by decide +kernel
theorem kx_40_33 : x_code k_P 40 33 = some (.istore_n 2, 1) := by decide +kernel
theorem km_40_2 : 2 < x_maxL k_P 40 := by decide +kernel
theorem kx_40_34 : x_code k_P 40 34 = some (.aload_n 0, 1) := by decide +kernel
theorem kx_40_35 : x_code k_P 40 35 = some (.getfield 15, 3) := by decide +kernel
theorem kp_40_15 : x_pool k_P 40 15 = (1, 4, 1) := by decide +kernel
theorem kx_40_38 : x_code k_P 40 38 = some (.iload_n 2, 1) := by decide +kernel
theorem kx_40_39 : x_code k_P 40 39 = some (.bipush 8, 2) := by decide +kernel
theorem kx_40_41 : x_code k_P 40 41 = some (.imul, 1) := by decide +kernel
theorem kx_40_42 : x_code k_P 40 42 = some (.aload_n 0, 1) := by decide +kernel
theorem kx_40_43 : x_code k_P 40 43 = some (.getfield 21, 3) := by decide +kernel
theorem kx_40_46 : x_code k_P 40 46 = some (.iload_n 1, 1) := by decide +kernel
theorem kx_40_47 : x_code k_P 40 47 = some (.iaload, 1) := by decide +kernel
theorem kx_40_48 : x_code k_P 40 48 = some (.iadd, 1) := by decide +kernel
theorem kx_40_49 : x_code k_P 40 49 = some (.iaload, 1) := by decide +kernel
theorem kx_40_50 : x_code k_P 40 50 = some (.ireturn, 1) := by decide +kernel
theorem m_40 {xs : Nat → Int} {Ln d : Nat} {T : List cK} {M : cM} (hT : TT T) (hI : Rng M) {k : Int} : cC k_P xs Ln (d + 0) 40 [rf 46, (0, k)] (T, M) (qF T M 0 (fun v => True)) := by
  show cP k_P xs Ln (d + 0) 40 0 [(0, rf 46), (1, (0, k))] [] (T, M) _
  refine s_iload_n kx_40_0 rfl ?_
  refine s_if_lt (t := 12) kx_40_1 (by decide) (fun hc1 => ?_) (fun hc1 => ?_)
  · refine s_iconst (v := (-1)) kx_40_12 (by decide) ?_
    exact s_iret kx_40_13 (Or.inl kq_40) ⟨_, rfl, rfl, trivial⟩
  · refine s_iload_n kx_40_4 rfl ?_
    refine s_aload_n kx_40_5 rfl ?_
    refine r_getI (k := 46) (f := 5) kx_40_6 kp_40_28 (tk_46 hT) kf_4_5 (fun _ => rfl) (rg_46_5 hI) (fun v2 v2e v2a v2b => ?_)
    refine s_icmp_lt (t := 14) kx_40_9 (by decide) (fun hc3 => ?_) (fun hc3 => ?_)
    · refine s_iload_n kx_40_14 rfl ?_
      have jn10 : ∀ (y9 : Int), (0 ≤ y9) → (y9 ≤ 7) → cP k_P xs Ln (d + 0) 40 33 [(0, rf 46), (1, (0, k))] [(0, y9)] (T, M) (qF T M 0 (fun v => True)) := by
        intro y9 a11 a12
        refine s_istore_n kx_40_33 km_40_2 rfl ?_
        refine s_aload_n kx_40_34 rfl ?_
        refine r_getR (k := 46) (f := 1) (k2 := 48) kx_40_35 kp_40_15 (tk_46 hT) kf_4_1 (by decide) (rq_46_1 hI) ?_
        refine s_iload_n kx_40_38 rfl ?_
        refine s_bipush (v := 8) kx_40_39 (by decide) ?_
        refine r_mul kx_40_41 ⟨by omega, by omega⟩ ?_
        refine s_aload_n kx_40_42 rfl ?_
        refine r_getR (k := 46) (f := 3) (k2 := 50) kx_40_43 kp_40_21 (tk_46 hT) kf_4_3 (by decide) (rq_46_3 hI) ?_
        refine s_iload_n kx_40_46 rfl ?_
        refine r_ald (k := 50) kx_40_47 (tk_50 hT) ⟨by omega, by omega⟩ (rg_50 hI) (fun v13 v13e v13a v13b => ?_)
        refine r_add kx_40_48 ⟨by omega, by omega⟩ ?_
        refine r_aldU (k := 48) kx_40_49 (tk_48 hT) ⟨by omega, by omega⟩ (fun v14 v14e => ?_)
        exact s_iret kx_40_50 (Or.inl kq_40) ⟨_, rfl, rfl, trivial⟩
      refine s_if_ne (t := 25) kx_40_15 (by decide) (fun hc4 => ?_) (fun hc4 => ?_)
      · refine s_aload_n kx_40_25 rfl ?_
        refine r_getR (k := 46) (f := 3) (k2 := 50) kx_40_26 kp_40_21 (tk_46 hT) kf_4_3 (by decide) (rq_46_3 hI) ?_
        refine s_iload_n kx_40_29 rfl ?_
        refine s_iconst (v := 1) kx_40_30 (by decide) ?_
        refine r_sub kx_40_31 ⟨by omega, by omega⟩ ?_
        refine r_ald (k := 50) kx_40_32 (tk_50 hT) ⟨by omega, by omega⟩ (rg_50 hI) (fun v6 v6e v6a v6b => ?_)
        exact cP.wk (lS1 rfl (lS1 rfl lS0)) (jn10 v6 (by omega) (by omega))
      · refine s_aload_n kx_40_18 rfl ?_
        refine r_getI (k := 46) (f := 4) kx_40_19 kp_40_24 (tk_46 hT) kf_4_4 (fun _ => rfl) (rg_46_4 hI) (fun v8 v8e v8a v8b => ?_)
        refine s_goto (t := 33) kx_40_22 (by decide) ?_
        exact cP.wk (lS1 rfl (lS1 rfl lS0)) (jn10 v8 (by omega) (by omega))
    · refine s_iconst (v := (-1)) kx_40_12 (by decide) ?_
      exact s_iret kx_40_13 (Or.inl kq_40) ⟨_, rfl, rfl, trivial⟩
