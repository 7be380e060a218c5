def gR_269_l18 : List (Nat × Nat) := [(102, 99999), (103, 99999), (104, 99999), (63, 62), (63, 63), (63, 64)]
def gR_269_l2 : List (Nat × Nat) := [(102, 99999), (103, 99999), (104, 99999), (63, 62), (63, 63), (63, 64)]
def gR_269_l85 : List (Nat × Nat) := [(102, 99999), (103, 99999), (104, 99999), (63, 62), (63, 63), (63, 64)]
def gR_269_m : List (Nat × Nat) := [(102, 99999), (103, 99999), (104, 99999), (63, 62), (63, 63), (63, 64)]
theorem g_269 {xs : Nat → Int} {Ln d : Nat} {T : List cK} {M : cM} (hT : TT T) (hI : Rng M) {who c : Int} {D S : cM} (hR : RR D S M) (p0 : 0 ≤ c ∧ c ≤ 7) (p1 : c < D 0 1) : cC k_P xs Ln (d + 4) 269 [rf 63, (0, who), (0, c)] (T, M) (qV T M gR_269_m (fun M1 => RR D S M1 ∧ pSq M1 (D 0 0) (D 0 0) 0 (fun a b => pLx D S c who a b (D 0 1).toNat))) := by
  show cP k_P xs Ln (d + 4) 269 0 [(0, rf 63), (1, (0, who)), (2, (0, c))] [] (T, M) _
  have hFm : Fr gR_269_m M M := Fr.refl
  have hD := hR.2.1
  have hDr := hD.rg
  have hSW := hR.2.2.2.2.1
  refine s_iconst (v := 0) kx_269_0 (by decide) ?_
  refine s_istore_n kx_269_1 km_269_3 rfl ?_
  have key3 : ∀ n4 : Nat, ∀ (x3_1 : Int), ∀ M2 : cM, Rng M2 → Fr gR_269_m M M2 → Fr gR_269_l2 M M2 → (0 ≤ x3_1) → (x3_1 ≤ 8) → (x3_1 ≤ D 0 0) → (RR D S M2) → (pSq M2 (D 0 0) x3_1 0 (fun a b => pLx D S c who a b (D 0 1).toNat)) → (2147483647 - x3_1).toNat < n4 → cP k_P xs Ln (d + 4) 269 2 [(0, rf 63), (1, (0, who)), (2, (0, c)), (3, (0, x3_1))] [] (T, M2) (qV T M gR_269_m (fun M1 => RR D S M1 ∧ pSq M1 (D 0 0) (D 0 0) 0 (fun a b => pLx D S c who a b (D 0 1).toNat))) := by
    intro n4
    induction n4 with
    | zero => intro x3_1 M2 hI2 hFm2 fl2 i5 i6 i7 i8 i9 hm10; exact absurd hm10 (Nat.not_lt_zero _)
    | succ n4 ih11 =>
      intro x3_1 M2 hI2 hFm2 fl2 i5 i6 i7 i8 i9 hm10
      refine s_iload_n kx_269_2 rfl ?_
      refine s_aload_n kx_269_3 rfl ?_
      refine r_getR (k := 63) (f := 15) (k2 := 65) kx_269_4 kp_269_57 (tk_63 hT) kf_12_15 (by decide) (rq_63_15 hI2) ?_
      refine s_aload_n kx_269_7 rfl ?_
      refine r_getI (k := 63) (f := 14) kx_269_8 kp_269_54 (tk_63 hT) kf_12_14 (fun _ => rfl) (rg_63_14 hI2) (fun v12 v12e v12a v12b => ?_)
      have v12z : M 63 14 = v12 := ((fl2 63 14 rfl)).symm.trans v12e
      refine r_ald (k := 65) kx_269_11 (tk_65 hT) ⟨by omega, by omega⟩ (rg_65 hI2) (fun v13 v13e v13a v13b => ?_)
      have v13d : D 0 0 = v13 := by have h9 := (i8).1.1; rw [v12e] at h9; exact h9.symm.trans v13e
      refine s_icmp_ge (t := 185) kx_269_12 (by decide) (fun hc14 => ?_) (fun hc14 => ?_)
      · exact s_vret kx_269_185 kq_269 ⟨_, rfl, rfl, hI2, hFm2, ⟨i8, by have h9 := i9; rw [show x3_1 = D 0 0 by omega] at h9; exact h9⟩⟩
      · refine s_iconst (v := 0) kx_269_15 (by decide) ?_
        refine s_istore kx_269_16 km_269_4 rfl ?_
        have key17 : ∀ n18 : Nat, ∀ (x4_15 : Int), ∀ M16 : cM, Rng M16 → Fr gR_269_m M M16 → Fr gR_269_l2 M M16 → Fr gR_269_l18 M2 M16 → (0 ≤ x4_15) → (x4_15 ≤ 8) → (x4_15 ≤ D 0 0) → (RR D S M16) → (pSq M16 (D 0 0) x3_1 x4_15 (fun a b => pLx D S c who a b (D 0 1).toNat)) → (2147483647 - x4_15).toNat < n18 → cP k_P xs Ln (d + 4) 269 18 [(0, rf 63), (1, (0, who)), (2, (0, c)), (3, (0, x3_1)), (4, (0, x4_15))] [] (T, M16) (qV T M gR_269_m (fun M1 => RR D S M1 ∧ pSq M1 (D 0 0) (D 0 0) 0 (fun a b => pLx D S c who a b (D 0 1).toNat))) := by
          intro n18
          induction n18 with
          | zero => intro x4_15 M16 hI16 hFm16 hFl216 fl16 i19 i20 i21 i22 i23 hm24; exact absurd hm24 (Nat.not_lt_zero _)
          | succ n18 ih25 =>
            intro x4_15 M16 hI16 hFm16 hFl216 fl16 i19 i20 i21 i22 i23 hm24
            refine s_iload kx_269_18 rfl ?_
            refine s_aload_n kx_269_20 rfl ?_
            refine r_getR (k := 63) (f := 15) (k2 := 65) kx_269_21 kp_269_57 (tk_63 hT) kf_12_15 (by decide) (rq_63_15 hI16) ?_
            refine s_aload_n kx_269_24 rfl ?_
            refine r_getK (k := 63) (f := 14) kx_269_25 kp_269_54 (tk_63 hT) kf_12_14 (fun _ => rfl) ((fl16 63 14 rfl).trans v12e) ?_
            refine r_aldK (k := 65) kx_269_28 (tk_65 hT) ⟨by omega, by omega⟩ ((fl16 65 _ rfl).trans v13e) ?_
            refine s_icmp_ge (t := 179) kx_269_29 (by decide) (fun hc26 => ?_) (fun hc26 => ?_)
            · refine r_iinc kx_269_179 rfl km_269_3 (by decide) ⟨by omega, by omega⟩ rfl ?_
              refine s_goto (t := 2) kx_269_182 (by decide) ?_
              have hs27 : pSq M16 (D 0 0) (x3_1 + 1) 0 (fun a b => pLx D S c who a b (D 0 1).toNat) := pSq.row i23 (by omega)
              exact cP.wk (lS1 rfl (lS1 rfl (lS1 rfl (lS1 rfl lS0)))) (ih11 (x3_1 + 1) M16 hI16 hFm16 hFl216 (by omega) (by omega) (by omega) i22 hs27 (by omega))
            · refine s_bipush (v := 8) kx_269_32 (by decide) ?_
              refine s_iload_n kx_269_34 rfl ?_
              refine r_mul kx_269_35 ⟨by omega, by omega⟩ ?_
              refine s_iload kx_269_36 rfl ?_
              refine r_add kx_269_38 ⟨by omega, by omega⟩ ?_
              refine s_istore kx_269_39 km_269_5 rfl ?_
              refine s_aload_n kx_269_41 rfl ?_
              refine r_getR (k := 63) (f := 65) (k2 := 103) kx_269_42 kp_269_210 (tk_63 hT) kf_12_65 (by decide) (rq_63_65 hI16) ?_
              refine s_iload kx_269_45 rfl ?_
              refine s_ldc_w kx_269_47 kp_269_571 ?_
              refine r_ast (k := 103) kx_269_50 (tk_103 hT) ⟨by omega, by omega⟩ hI16 (ru_103 (by omega) (by omega)) (fun M28 hI28 u28 => ?_)
              have hFm28 := hFm16.up u28 rfl
              have hFl228 := hFl216.up u28 rfl
              have hFl1828 := fl16.up u28 rfl
              have hc29 := (RR.up i22 u28 (by omega))
              refine s_aload_n kx_269_51 rfl ?_
              refine r_getR (k := 63) (f := 66) (k2 := 104) kx_269_52 kp_269_213 (tk_63 hT) kf_12_66 (by decide) (rq_63_66 hI28) ?_
              refine s_iload kx_269_55 rfl ?_
              refine s_iconst (v := (-1)) kx_269_57 (by decide) ?_
              refine r_ast (k := 104) kx_269_58 (tk_104 hT) ⟨by omega, by omega⟩ hI28 (ru_104 (by omega) (by omega)) (fun M30 hI30 u30 => ?_)
              have hFm30 := hFm28.up u30 rfl
              have hFl230 := hFl228.up u30 rfl
              have hFl1830 := hFl1828.up u30 rfl
              have hc31 := (RR.up hc29 u30 (by omega))
              have he32 : pEn M30 (8 * x3_1 + x4_15).toNat (pLx D S c who (x3_1).toNat (x4_15).toNat (0 : Int).toNat) := pEn.z u28 u30 rfl (by omega)
              refine s_aload_n kx_269_59 rfl ?_
              refine s_iload_n kx_269_60 rfl ?_
              refine s_iload kx_269_61 rfl ?_
              refine s_callV2 (k := 63) (s1 := 3) (s2 := 0) (as := [(0, x4_15), (0, x3_1)]) (rest := []) kx_269_63 kp_269_511 (Or.inl rfl) rfl (tk_63 hT) ki_245 kcl_245 rfl rfl (by decide) (g_245 (d := d + 3) (a := x3_1) (b := x4_15) hT hI30 hc31 (by omega) (by omega) (by omega) (by omega)) (kF (fun v33 v33p => ?_))
              have v33q : v33 = pWy D x3_1 x4_15 := v33p.2.2
              refine s_if_eq (t := 173) kx_269_66 (by decide) (fun hc34 => ?_) (fun hc34 => ?_)
              · refine r_iinc kx_269_173 rfl km_269_4 (by decide) ⟨by omega, by omega⟩ rfl ?_
                refine s_goto (t := 18) kx_269_176 (by decide) ?_
                have hs35 : pSq M30 (D 0 0) x3_1 (x4_15 + 1) (fun a b => pLx D S c who a b (D 0 1).toNat) := pSq.nx (pSq.up (pSq.up i23 u28 (by omega) ⟨by omega, by omega, by omega⟩ (by omega)) u30 (by omega) ⟨by omega, by omega, by omega⟩ (by omega)) (by rw [pLx_noI ⟨by omega, by omega⟩ (by omega)]; exact he32) ⟨by omega, by omega⟩
                exact cP.wk (lS1 rfl (lS1 rfl (lS1 rfl (lS1 rfl (lS1 rfl lS0))))) (ih25 (x4_15 + 1) M30 hI30 hFm30 hFl230 hFl1830 (by omega) (by omega) (by omega) hc31 hs35 (by omega))
              · refine s_aload_n kx_269_69 rfl ?_
                refine s_iload_n kx_269_70 rfl ?_
                refine s_iload kx_269_71 rfl ?_
                refine s_callV2 (k := 63) (s1 := 3) (s2 := 0) (as := [(0, x4_15), (0, c)]) (rest := []) kx_269_73 kp_269_517 (Or.inl rfl) rfl (tk_63 hT) ki_242 kcl_242 rfl rfl (by decide) (g_242 (d := d) (c := c) (r := x4_15) hT hI30 hc31 (by omega) (by omega) (by omega) (by omega)) (kF (fun v36 v36p => ?_))
                refine s_if_ne (t := 82) kx_269_76 (by decide) (fun hc37 => ?_) (fun hc37 => ?_)
                · replace v36p := v36p.resolve_right (by omega)
                  refine s_iconst (v := 0) kx_269_82 (by decide) ?_
                  refine s_istore kx_269_83 km_269_6 rfl ?_
                  have key40 : ∀ n41 : Nat, ∀ (x6_38 : Int), ∀ M39 : cM, Rng M39 → Fr gR_269_m M M39 → Fr gR_269_l2 M M39 → Fr gR_269_l18 M2 M39 → Fr gR_269_l85 M30 M39 → (0 ≤ x6_38) → (x6_38 ≤ 8) → (x6_38 ≤ D 0 1) → (RR D S M39) → (pSq M39 (D 0 0) x3_1 x4_15 (fun a b => pLx D S c who a b (D 0 1).toNat)) → (pEn M39 (8 * x3_1 + x4_15).toNat (pLx D S c who (x3_1).toNat (x4_15).toNat (x6_38).toNat)) → (2147483647 - x6_38).toNat < n41 → cP k_P xs Ln (d + 4) 269 85 [(0, rf 63), (1, (0, who)), (2, (0, c)), (3, (0, x3_1)), (4, (0, x4_15)), (5, (0, ((8 * x3_1) + x4_15))), (6, (0, x6_38))] [] (T, M39) (qV T M gR_269_m (fun M1 => RR D S M1 ∧ pSq M1 (D 0 0) (D 0 0) 0 (fun a b => pLx D S c who a b (D 0 1).toNat))) := by
                    intro n41
                    induction n41 with
                    | zero => intro x6_38 M39 hI39 hFm39 hFl239 hFl1839 fl39 i42 i43 i44 i45 i46 i47 hm48; exact absurd hm48 (Nat.not_lt_zero _)
                    | succ n41 ih49 =>
                      intro x6_38 M39 hI39 hFm39 hFl239 hFl1839 fl39 i42 i43 i44 i45 i46 i47 hm48
                      have hq0 : True := trivial
                      refine s_iload kx_269_85 rfl ?_
                      refine s_aload_n kx_269_87 rfl ?_
                      refine r_getR (k := 63) (f := 19) (k2 := 69) kx_269_88 kp_269_69 (tk_63 hT) kf_12_19 (by decide) (rq_63_19 hI39) ?_
                      refine s_aload_n kx_269_91 rfl ?_
                      refine r_getK (k := 63) (f := 14) kx_269_92 kp_269_54 (tk_63 hT) kf_12_14 (fun _ => rfl) ((fl39 63 14 rfl).trans ((u30.2 63 14 (by omega)).trans ((u28.2 63 14 (by omega)).trans ((fl16 63 14 rfl).trans v12e)))) ?_
                      refine r_ald (k := 69) kx_269_95 (tk_69 hT) ⟨by omega, by omega⟩ (rg_69 hI39) (fun v50 v50e v50a v50b => ?_)
                      have v50d : D 0 1 = v50 := by have h9 := (i45).1.2.1; rw [((fl39 63 14 rfl).trans ((u30.2 63 14 (by omega)).trans ((u28.2 63 14 (by omega)).trans ((fl16 63 14 rfl).trans v12e))))] at h9; exact h9.symm.trans v50e
                      refine s_icmp_ge (t := 173) kx_269_96 (by decide) (fun hc51 => ?_) (fun hc51 => ?_)
                      · refine r_iinc kx_269_173 rfl km_269_4 (by decide) ⟨by omega, by omega⟩ rfl ?_
                        refine s_goto (t := 18) kx_269_176 (by decide) ?_
                        have hs52 : pSq M39 (D 0 0) x3_1 (x4_15 + 1) (fun a b => pLx D S c who a b (D 0 1).toNat) := pSq.nx i46 (by rw [show D 0 1 = x6_38 by omega]; exact i47) ⟨by omega, by omega⟩
                        exact cP.wk (lS1 rfl (lS1 rfl (lS1 rfl (lS1 rfl (lS1 rfl lS0))))) (ih25 (x4_15 + 1) M39 hI39 hFm39 hFl239 hFl1839 (by omega) (by omega) (by omega) i45 hs52 (by omega))
                      · refine s_iload_n kx_269_99 rfl ?_
                        refine s_iconst (v := (-1)) kx_269_100 (by decide) ?_
                        refine s_icmp_eq (t := 110) kx_269_101 (by decide) (fun hc53 => ?_) (fun hc53 => ?_)
                        · refine s_aload_n kx_269_110 rfl ?_
                          refine s_iload kx_269_111 rfl ?_
                          refine s_iload_n kx_269_113 rfl ?_
                          refine s_aload_n kx_269_114 rfl ?_
                          refine s_iload_n kx_269_115 rfl ?_
                          refine s_iload kx_269_116 rfl ?_
                          refine s_callV2 (k := 63) (s1 := 3) (s2 := 3) (as := [(0, x4_15), (0, x3_1)]) (rest := [(0, c), (0, x6_38), rf 63]) kx_269_118 kp_269_511 (Or.inl rfl) rfl (tk_63 hT) ki_245 kcl_245 rfl rfl (by decide) (g_245 (d := d + 3) (a := x3_1) (b := x4_15) hT hI39 i45 (by omega) (by omega) (by omega) (by omega)) (kF (fun v54 v54p => ?_))
                          have v54q : v54 = pWy D x3_1 x4_15 := v54p.2.2
                          have hc55 := i45
                          refine s_callV2 (k := 63) (s1 := 4) (s2 := 0) (as := [(0, v54), (0, c), (0, x6_38)]) (rest := []) kx_269_121 kp_269_523 (Or.inl rfl) rfl (tk_63 hT) ki_235 kcl_235 rfl rfl (by decide) (g_235 (d := d) (p := x6_38) (chair := c) (takes := v54) hT hI39 hc55 (by omega) (by omega) (by omega) (by omega) (by omega)) (kW (fun v56 M57 hI57 fr57 v56p => ?_))
                          have hFm57 := hFm39.call fr57 rfl
                          have hFl257 := hFl239.call fr57 rfl
                          have hFl1857 := hFl1839.call fr57 rfl
                          have hFl8557 := fl39.call fr57 rfl
                          have v56q : v56 = pCy D S x6_38 c (pWy D x3_1 x4_15) := by have h9 := v56p.2.2; rw [v54q] at h9; exact h9
                          have v56r := v56p.2.1
                          have hc58 := (RR.fr hc55 fr57 rfl)
                          refine s_aload_n kx_269_124 rfl ?_
                          refine r_getR (k := 63) (f := 65) (k2 := 103) kx_269_125 kp_269_210 (tk_63 hT) kf_12_65 (by decide) (rq_63_65 hI57) ?_
                          refine s_iload kx_269_128 rfl ?_
                          refine r_ald (k := 103) kx_269_130 (tk_103 hT) ⟨by omega, by omega⟩ (rg_103 hI57) (fun v59 v59e v59a v59b => ?_)
                          have v59x : M57 103 (8 * x3_1 + x4_15).toNat = v59 := (congrArg (M57 103) (by omega)).trans v59e
                          refine s_icmp_lt (t := 137) kx_269_131 (by decide) (fun hc60 => ?_) (fun hc60 => ?_)
                          · refine s_aload_n kx_269_137 rfl ?_
                            refine r_getR (k := 63) (f := 65) (k2 := 103) kx_269_138 kp_269_210 (tk_63 hT) kf_12_65 (by decide) (rq_63_65 hI57) ?_
                            refine s_iload kx_269_141 rfl ?_
                            refine s_aload_n kx_269_143 rfl ?_
                            refine s_iload kx_269_144 rfl ?_
                            refine s_iload_n kx_269_146 rfl ?_
                            refine s_aload_n kx_269_147 rfl ?_
                            refine s_iload_n kx_269_148 rfl ?_
                            refine s_iload kx_269_149 rfl ?_
                            refine s_callV2 (k := 63) (s1 := 3) (s2 := 5) (as := [(0, x4_15), (0, x3_1)]) (rest := [(0, c), (0, x6_38), rf 63, (0, ((8 * x3_1) + x4_15)), rf 103]) kx_269_151 kp_269_511 (Or.inl rfl) rfl (tk_63 hT) ki_245 kcl_245 rfl rfl (by decide) (g_245 (d := d + 3) (a := x3_1) (b := x4_15) hT hI57 hc58 (by omega) (by omega) (by omega) (by omega)) (kF (fun v61 v61p => ?_))
                            have v61q : v61 = pWy D x3_1 x4_15 := v61p.2.2
                            refine s_callV2 (k := 63) (s1 := 4) (s2 := 2) (as := [(0, v61), (0, c), (0, x6_38)]) (rest := [(0, ((8 * x3_1) + x4_15)), rf 103]) kx_269_154 kp_269_523 (Or.inl rfl) rfl (tk_63 hT) ki_235 kcl_235 rfl rfl (by decide) (g_235 (d := d) (p := x6_38) (chair := c) (takes := v61) hT hI57 hc58 (by omega) (by omega) (by omega) (by omega) (by omega)) (kW (fun v62 M63 hI63 fr63 v62p => ?_))
                            have hFm63 := hFm57.call fr63 rfl
                            have hFl263 := hFl257.call fr63 rfl
                            have hFl1863 := hFl1857.call fr63 rfl
                            have hFl8563 := hFl8557.call fr63 rfl
                            have v62q : v62 = pCy D S x6_38 c (pWy D x3_1 x4_15) := by have h9 := v62p.2.2; rw [v61q] at h9; exact h9
                            have v62r := v62p.2.1
                            have hc64 := (RR.fr hc58 fr63 rfl)
                            refine r_ast (k := 103) kx_269_157 (tk_103 hT) ⟨by omega, by omega⟩ hI63 (ru_103 (by omega) (by omega)) (fun M65 hI65 u65 => ?_)
                            have hFm65 := hFm63.up u65 rfl
                            have hFl265 := hFl263.up u65 rfl
                            have hFl1865 := hFl1863.up u65 rfl
                            have hFl8565 := hFl8563.up u65 rfl
                            have hc66 := (RR.up hc64 u65 (by omega))
                            refine s_aload_n kx_269_158 rfl ?_
                            refine r_getR (k := 63) (f := 66) (k2 := 104) kx_269_159 kp_269_213 (tk_63 hT) kf_12_66 (by decide) (rq_63_66 hI65) ?_
                            refine s_iload kx_269_162 rfl ?_
                            refine s_iload kx_269_164 rfl ?_
                            refine r_ast (k := 104) kx_269_166 (tk_104 hT) ⟨by omega, by omega⟩ hI65 (ru_104 (by omega) (by omega)) (fun M67 hI67 u67 => ?_)
                            have hFm67 := hFm65.up u67 rfl
                            have hFl267 := hFl265.up u67 rfl
                            have hFl1867 := hFl1865.up u67 rfl
                            have hFl8567 := hFl8565.up u67 rfl
                            have hc68 := (RR.up hc66 u67 (by omega))
                            refine r_iinc kx_269_167 rfl km_269_6 (by decide) ⟨by omega, by omega⟩ rfl ?_
                            refine s_goto (t := 85) kx_269_170 (by decide) ?_
                            have he69 : pEn M67 (8 * x3_1 + x4_15).toNat (pLx D S c who (x3_1).toNat (x4_15).toNat (x6_38 + 1).toNat) := pEn.set (pEn.of (pEn.of i47 (fun f => fr57 103 f rfl) (fun f => fr57 104 f rfl)) (fun f => fr63 103 f rfl) (fun f => fr63 104 f rfl)) ⟨by omega, by omega, by omega⟩ u65 u67 (by omega) (by omega) ((fr63 103 _ rfl).trans v59x) v62q (by omega) (by omega) ⟨by omega, by omega⟩ rfl rfl
                            exact cP.wk (lS1 rfl (lS1 rfl (lS1 rfl (lS1 rfl (lS1 rfl (lS1 rfl (lS1 rfl lS0))))))) (ih49 (x6_38 + 1) M67 hI67 hFm67 hFl267 hFl1867 hFl8567 (by omega) (by omega) (by omega) hc68 (pSq.up (pSq.up (pSq.of (pSq.of i46 (fun f => fr57 103 f rfl) (fun f => fr57 104 f rfl)) (fun f => fr63 103 f rfl) (fun f => fr63 104 f rfl)) u65 (by omega) ⟨by omega, by omega, by omega⟩ (by omega)) u67 (by omega) ⟨by omega, by omega, by omega⟩ (by omega)) he69 (by omega))
                          · refine s_goto (t := 167) kx_269_134 (by decide) ?_
                            refine r_iinc kx_269_167 rfl km_269_6 (by decide) ⟨by omega, by omega⟩ rfl ?_
                            refine s_goto (t := 85) kx_269_170 (by decide) ?_
                            have he70 : pEn M57 (8 * x3_1 + x4_15).toNat (pLx D S c who (x3_1).toNat (x4_15).toNat (x6_38 + 1).toNat) := pEn.no (pEn.of i47 (fun f => fr57 103 f rfl) (fun f => fr57 104 f rfl)) ⟨by omega, by omega, by omega⟩ v59x v56q (by omega)
                            exact cP.wk (lS1 rfl (lS1 rfl (lS1 rfl (lS1 rfl (lS1 rfl (lS1 rfl (lS1 rfl lS0))))))) (ih49 (x6_38 + 1) M57 hI57 hFm57 hFl257 hFl1857 hFl8557 (by omega) (by omega) (by omega) hc58 (pSq.of i46 (fun f => fr57 103 f rfl) (fun f => fr57 104 f rfl)) he70 (by omega))
                        · refine s_iload_n kx_269_104 rfl ?_
                          refine s_iload kx_269_105 rfl ?_
                          refine s_icmp_ne (t := 167) kx_269_107 (by decide) (fun hc71 => ?_) (fun hc71 => ?_)
                          · refine r_iinc kx_269_167 rfl km_269_6 (by decide) ⟨by omega, by omega⟩ rfl ?_
                            refine s_goto (t := 85) kx_269_170 (by decide) ?_
                            have he72 : pEn M39 (8 * x3_1 + x4_15).toNat (pLx D S c who (x3_1).toNat (x4_15).toNat (x6_38 + 1).toNat) := pEn.no i47 ⟨by omega, by omega, by omega⟩ rfl rfl (Or.inl (by omega))
                            exact cP.wk (lS1 rfl (lS1 rfl (lS1 rfl (lS1 rfl (lS1 rfl (lS1 rfl (lS1 rfl lS0))))))) (ih49 (x6_38 + 1) M39 hI39 hFm39 hFl239 hFl1839 fl39 (by omega) (by omega) (by omega) i45 i46 he72 (by omega))
                          · refine s_aload_n kx_269_110 rfl ?_
                            refine s_iload kx_269_111 rfl ?_
                            refine s_iload_n kx_269_113 rfl ?_
                            refine s_aload_n kx_269_114 rfl ?_
                            refine s_iload_n kx_269_115 rfl ?_
                            refine s_iload kx_269_116 rfl ?_
                            refine s_callV2 (k := 63) (s1 := 3) (s2 := 3) (as := [(0, x4_15), (0, x3_1)]) (rest := [(0, c), (0, x6_38), rf 63]) kx_269_118 kp_269_511 (Or.inl rfl) rfl (tk_63 hT) ki_245 kcl_245 rfl rfl (by decide) (g_245 (d := d + 3) (a := x3_1) (b := x4_15) hT hI39 i45 (by omega) (by omega) (by omega) (by omega)) (kF (fun v73 v73p => ?_))
                            have v73q : v73 = pWy D x3_1 x4_15 := v73p.2.2
                            have hc74 := i45
                            refine s_callV2 (k := 63) (s1 := 4) (s2 := 0) (as := [(0, v73), (0, c), (0, x6_38)]) (rest := []) kx_269_121 kp_269_523 (Or.inl rfl) rfl (tk_63 hT) ki_235 kcl_235 rfl rfl (by decide) (g_235 (d := d) (p := x6_38) (chair := c) (takes := v73) hT hI39 hc74 (by omega) (by omega) (by omega) (by omega) (by omega)) (kW (fun v75 M76 hI76 fr76 v75p => ?_))
                            have hFm76 := hFm39.call fr76 rfl
                            have hFl276 := hFl239.call fr76 rfl
                            have hFl1876 := hFl1839.call fr76 rfl
                            have hFl8576 := fl39.call fr76 rfl
                            have v75q : v75 = pCy D S x6_38 c (pWy D x3_1 x4_15) := by have h9 := v75p.2.2; rw [v73q] at h9; exact h9
                            have v75r := v75p.2.1
                            have hc77 := (RR.fr hc74 fr76 rfl)
                            refine s_aload_n kx_269_124 rfl ?_
                            refine r_getR (k := 63) (f := 65) (k2 := 103) kx_269_125 kp_269_210 (tk_63 hT) kf_12_65 (by decide) (rq_63_65 hI76) ?_
                            refine s_iload kx_269_128 rfl ?_
                            refine r_ald (k := 103) kx_269_130 (tk_103 hT) ⟨by omega, by omega⟩ (rg_103 hI76) (fun v78 v78e v78a v78b => ?_)
                            have v78x : M76 103 (8 * x3_1 + x4_15).toNat = v78 := (congrArg (M76 103) (by omega)).trans v78e
                            refine s_icmp_lt (t := 137) kx_269_131 (by decide) (fun hc79 => ?_) (fun hc79 => ?_)
                            · refine s_aload_n kx_269_137 rfl ?_
                              refine r_getR (k := 63) (f := 65) (k2 := 103) kx_269_138 kp_269_210 (tk_63 hT) kf_12_65 (by decide) (rq_63_65 hI76) ?_
                              refine s_iload kx_269_141 rfl ?_
                              refine s_aload_n kx_269_143 rfl ?_
                              refine s_iload kx_269_144 rfl ?_
                              refine s_iload_n kx_269_146 rfl ?_
                              refine s_aload_n kx_269_147 rfl ?_
                              refine s_iload_n kx_269_148 rfl ?_
                              refine s_iload kx_269_149 rfl ?_
                              refine s_callV2 (k := 63) (s1 := 3) (s2 := 5) (as := [(0, x4_15), (0, x3_1)]) (rest := [(0, c), (0, x6_38), rf 63, (0, ((8 * x3_1) + x4_15)), rf 103]) kx_269_151 kp_269_511 (Or.inl rfl) rfl (tk_63 hT) ki_245 kcl_245 rfl rfl (by decide) (g_245 (d := d + 3) (a := x3_1) (b := x4_15) hT hI76 hc77 (by omega) (by omega) (by omega) (by omega)) (kF (fun v80 v80p => ?_))
                              have v80q : v80 = pWy D x3_1 x4_15 := v80p.2.2
                              refine s_callV2 (k := 63) (s1 := 4) (s2 := 2) (as := [(0, v80), (0, c), (0, x6_38)]) (rest := [(0, ((8 * x3_1) + x4_15)), rf 103]) kx_269_154 kp_269_523 (Or.inl rfl) rfl (tk_63 hT) ki_235 kcl_235 rfl rfl (by decide) (g_235 (d := d) (p := x6_38) (chair := c) (takes := v80) hT hI76 hc77 (by omega) (by omega) (by omega) (by omega) (by omega)) (kW (fun v81 M82 hI82 fr82 v81p => ?_))
                              have hFm82 := hFm76.call fr82 rfl
                              have hFl282 := hFl276.call fr82 rfl
                              have hFl1882 := hFl1876.call fr82 rfl
                              have hFl8582 := hFl8576.call fr82 rfl
                              have v81q : v81 = pCy D S x6_38 c (pWy D x3_1 x4_15) := by have h9 := v81p.2.2; rw [v80q] at h9; exact h9
                              have v81r := v81p.2.1
                              have hc83 := (RR.fr hc77 fr82 rfl)
                              refine r_ast (k := 103) kx_269_157 (tk_103 hT) ⟨by omega, by omega⟩ hI82 (ru_103 (by omega) (by omega)) (fun M84 hI84 u84 => ?_)
                              have hFm84 := hFm82.up u84 rfl
                              have hFl284 := hFl282.up u84 rfl
                              have hFl1884 := hFl1882.up u84 rfl
                              have hFl8584 := hFl8582.up u84 rfl
                              have hc85 := (RR.up hc83 u84 (by omega))
                              refine s_aload_n kx_269_158 rfl ?_
                              refine r_getR (k := 63) (f := 66) (k2 := 104) kx_269_159 kp_269_213 (tk_63 hT) kf_12_66 (by decide) (rq_63_66 hI84) ?_
                              refine s_iload kx_269_162 rfl ?_
                              refine s_iload kx_269_164 rfl ?_
                              refine r_ast (k := 104) kx_269_166 (tk_104 hT) ⟨by omega, by omega⟩ hI84 (ru_104 (by omega) (by omega)) (fun M86 hI86 u86 => ?_)
                              have hFm86 := hFm84.up u86 rfl
                              have hFl286 := hFl284.up u86 rfl
                              have hFl1886 := hFl1884.up u86 rfl
                              have hFl8586 := hFl8584.up u86 rfl
                              have hc87 := (RR.up hc85 u86 (by omega))
                              refine r_iinc kx_269_167 rfl km_269_6 (by decide) ⟨by omega, by omega⟩ rfl ?_
                              refine s_goto (t := 85) kx_269_170 (by decide) ?_
                              have he88 : pEn M86 (8 * x3_1 + x4_15).toNat (pLx D S c who (x3_1).toNat (x4_15).toNat (x6_38 + 1).toNat) := pEn.set (pEn.of (pEn.of i47 (fun f => fr76 103 f rfl) (fun f => fr76 104 f rfl)) (fun f => fr82 103 f rfl) (fun f => fr82 104 f rfl)) ⟨by omega, by omega, by omega⟩ u84 u86 (by omega) (by omega) ((fr82 103 _ rfl).trans v78x) v81q (by omega) (by omega) ⟨by omega, by omega⟩ rfl rfl
                              exact cP.wk (lS1 rfl (lS1 rfl (lS1 rfl (lS1 rfl (lS1 rfl (lS1 rfl (lS1 rfl lS0))))))) (ih49 (x6_38 + 1) M86 hI86 hFm86 hFl286 hFl1886 hFl8586 (by omega) (by omega) (by omega) hc87 (pSq.up (pSq.up (pSq.of (pSq.of i46 (fun f => fr76 103 f rfl) (fun f => fr76 104 f rfl)) (fun f => fr82 103 f rfl) (fun f => fr82 104 f rfl)) u84 (by omega) ⟨by omega, by omega, by omega⟩ (by omega)) u86 (by omega) ⟨by omega, by omega, by omega⟩ (by omega)) he88 (by omega))
                            · refine s_goto (t := 167) kx_269_134 (by decide) ?_
                              refine r_iinc kx_269_167 rfl km_269_6 (by decide) ⟨by omega, by omega⟩ rfl ?_
                              refine s_goto (t := 85) kx_269_170 (by decide) ?_
                              have he89 : pEn M76 (8 * x3_1 + x4_15).toNat (pLx D S c who (x3_1).toNat (x4_15).toNat (x6_38 + 1).toNat) := pEn.no (pEn.of i47 (fun f => fr76 103 f rfl) (fun f => fr76 104 f rfl)) ⟨by omega, by omega, by omega⟩ v78x v75q (by omega)
                              exact cP.wk (lS1 rfl (lS1 rfl (lS1 rfl (lS1 rfl (lS1 rfl (lS1 rfl (lS1 rfl lS0))))))) (ih49 (x6_38 + 1) M76 hI76 hFm76 hFl276 hFl1876 hFl8576 (by omega) (by omega) (by omega) hc77 (pSq.of i46 (fun f => fr76 103 f rfl) (fun f => fr76 104 f rfl)) he89 (by omega))
                  exact cP.wk (lS1 rfl (lS1 rfl (lS1 rfl (lS1 rfl (lS1 rfl (lS1 rfl (lS1 rfl lS0))))))) (key40 _ 0 M30 hI30 hFm30 hFl230 hFl1830 Fr.refl (by omega) (by omega) (by omega) hc31 (pSq.up (pSq.up i23 u28 (by omega) ⟨by omega, by omega, by omega⟩ (by omega)) u30 (by omega) ⟨by omega, by omega, by omega⟩ (by omega)) he32 (Nat.lt_succ_self _))
                · replace v36p := v36p.resolve_left (by omega)
                  refine s_goto (t := 173) kx_269_79 (by decide) ?_
                  refine r_iinc kx_269_173 rfl km_269_4 (by decide) ⟨by omega, by omega⟩ rfl ?_
                  refine s_goto (t := 18) kx_269_176 (by decide) ?_
                  have hs90 : pSq M30 (D 0 0) x3_1 (x4_15 + 1) (fun a b => pLx D S c who a b (D 0 1).toNat) := pSq.nx (pSq.up (pSq.up i23 u28 (by omega) ⟨by omega, by omega, by omega⟩ (by omega)) u30 (by omega) ⟨by omega, by omega, by omega⟩ (by omega)) (by rw [pLx_noI ⟨by omega, by omega⟩ (by omega)]; exact he32) ⟨by omega, by omega⟩
                  exact cP.wk (lS1 rfl (lS1 rfl (lS1 rfl (lS1 rfl (lS1 rfl lS0))))) (ih25 (x4_15 + 1) M30 hI30 hFm30 hFl230 hFl1830 (by omega) (by omega) (by omega) hc31 hs90 (by omega))
        exact cP.wk (lS1 rfl (lS1 rfl (lS1 rfl (lS1 rfl (lS1 rfl lS0))))) (key17 _ 0 M2 hI2 hFm2 fl2 Fr.refl (by omega) (by omega) (by omega) i8 i9 (Nat.lt_succ_self _))
  exact cP.wk (lS1 rfl (lS1 rfl (lS1 rfl (lS1 rfl lS0)))) (key3 _ 0 M hI hFm Fr.refl (by omega) (by omega) (by omega) hR (pSq.z : pSq M (D 0 0) 0 0 (fun a b => pLx D S c who a b (D 0 1).toNat)) (Nat.lt_succ_self _))
