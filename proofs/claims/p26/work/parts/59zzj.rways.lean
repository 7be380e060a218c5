theorem h_281 {xs : Nat → Int} {Ln d : Nat} {T : List cK} {M : cM} (hT : TT T) (hI : Rng M) {r : Int} {s : Nat → Int} {R : Int} (hQ : RWS s R M) (hds : DST s R) (hR8 : 0 ≤ R ∧ R ≤ 8) : cC k_P xs Ln (d + 0) 281 [rf 63, (0, r)] (T, M) (qF T M 0 (fun v => (-1) ≤ v ∧ v ≤ 7 ∧ (v = pRw s R.toNat r))) := by
  show cP k_P xs Ln (d + 0) 281 0 [(0, rf 63), (1, (0, r))] [] (T, M) _
  refine s_iconst (v := 0) kx_281_0 (by decide) ?_
  refine s_istore_n kx_281_1 km_281_2 rfl ?_
  have key2 : ∀ n3 : Nat, ∀ (x2_1 : Int), (0 ≤ x2_1) → (x2_1 ≤ 8) → (x2_1 ≤ R) → (pRw s (x2_1).toNat r = -1) → (2147483647 - x2_1).toNat < n3 → cP k_P xs Ln (d + 0) 281 2 [(0, rf 63), (1, (0, r)), (2, (0, x2_1))] [] (T, M) (qF T M 0 (fun v => (-1) ≤ v ∧ v ≤ 7 ∧ (v = pRw s R.toNat r))) := by
    intro n3
    induction n3 with
    | zero => intro x2_1 i4 i5 i6 i7 hm8; exact absurd hm8 (Nat.not_lt_zero _)
    | succ n3 ih9 =>
      intro x2_1 i4 i5 i6 i7 hm8
      refine s_iload_n kx_281_2 rfl ?_
      refine s_aload_n kx_281_3 rfl ?_
      refine r_getI (k := 63) (f := 72) kx_281_4 kp_281_231 (tk_63 hT) kf_12_72 (fun _ => rfl) (rg_63_72 hI) (fun v10 v10e v10a v10b => ?_)
      have v10S : v10 = R := v10e.symm.trans hQ.1
      refine s_icmp_ge (t := 28) kx_281_7 (by decide) (fun hc11 => ?_) (fun hc11 => ?_)
      · refine s_iconst (v := (-1)) kx_281_28 (by decide) ?_
        exact s_iret kx_281_29 (Or.inl kq_281) ⟨_, rfl, rfl, ⟨by omega, by omega, (by have h9 := i7; rw [show x2_1 = R by omega] at h9; exact h9.symm)⟩⟩
      · refine s_aload_n kx_281_10 rfl ?_
        refine r_getR (k := 63) (f := 73) (k2 := 108) kx_281_11 kp_281_234 (tk_63 hT) kf_12_73 (by decide) (rq_63_73 hI) ?_
        refine s_iload_n kx_281_14 rfl ?_
        refine r_ald (k := 108) kx_281_15 (tk_108 hT) ⟨by omega, by omega⟩ (rg_108 hI) (fun v12 v12e v12a v12b => ?_)
        have v12w : s (2 * x2_1).toNat = v12 := (hQ.2 x2_1 (by omega) (by omega)).1.symm.trans v12e
        refine s_iload_n kx_281_16 rfl ?_
        refine s_icmp_ne (t := 22) kx_281_17 (by decide) (fun hc13 => ?_) (fun hc13 => ?_)
        · refine r_iinc kx_281_22 rfl km_281_2 (by decide) ⟨by omega, by omega⟩ rfl ?_
          refine s_goto (t := 2) kx_281_25 (by decide) ?_
          exact cP.wk (lS1 rfl (lS1 rfl (lS1 rfl lS0))) (ih9 (x2_1 + 1) (by omega) (by omega) (by omega) (pRw_mis i7 (by omega) (by omega)) (by omega))
        · refine s_iload_n kx_281_20 rfl ?_
          exact s_iret kx_281_21 (Or.inl kq_281) ⟨_, rfl, rfl, ⟨by omega, by omega, (pRw_hit i7 (by omega) (by omega) (by omega)).symm⟩⟩
  exact cP.wk (lS1 rfl (lS1 rfl (lS1 rfl lS0))) (key2 _ 0 (by omega) (by omega) (by omega) rfl (Nat.lt_succ_self _))
def hR_282_l104 : List (Nat × Nat) := [(110, 99999), (111, 99999)]
def hR_282_l121 : List (Nat × Nat) := [(111, 99999)]
def hR_282_l144 : List (Nat × Nat) := [(111, 99999)]
def hR_282_l199 : List (Nat × Nat) := [(111, 99999)]
def hR_282_l301 : List (Nat × Nat) := [(110, 99999)]
def hR_282_l74 : List (Nat × Nat) := [(110, 99999)]
def hR_282_l8 : List (Nat × Nat) := [(112, 99999)]
def hR_282_m : List (Nat × Nat) := [(110, 99999), (111, 99999), (112, 99999)]
theorem h_282 {xs : Nat → Int} {Ln d : Nat} {T : List cK} {M : cM} (hT : TT T) (hI : Rng M) {one where_ : Int} {D S : cM} (hR : RR D S M) {s : Nat → Int} {R : Int} (hQ : RWS s R M) (hds : DST s R) (hR8 : 0 ≤ R ∧ R ≤ 8) : cC k_P xs Ln (d + 2) 282 [rf 63, (0, one), (0, where_)] (T, M) (qW T M hR_282_m 0 (fun v M1 => v = wr32 (pWa D S s R (alO one where_)))) := by
  show cP k_P xs Ln (d + 2) 282 0 [(0, rf 63), (1, (0, one)), (2, (0, where_))] [] (T, M) _
  have hFm : Fr hR_282_m M M := Fr.refl
  have hD := hR.2.1
  have hDr := hD.rg
  have hSW := hR.2.2.2.2
  have hS1 := pPr_pos (rAs_ge (R := R) hds) R.toNat
  refine s_iconst (v := 1) kx_282_0 (by decide) ?_
  refine s_istore_n kx_282_1 km_282_3 rfl ?_
  refine s_iconst (v := 0) kx_282_2 (by decide) ?_
  refine s_istore kx_282_3 km_282_4 rfl ?_
  refine s_iconst (v := 0) kx_282_5 (by decide) ?_
  refine s_istore kx_282_6 km_282_5 rfl ?_
  have key5 : ∀ n6 : Nat, ∀ (x3_1 x4_2 x5_3 : Int), ∀ M4 : cM, Rng M4 → Fr hR_282_m M M4 → Fr hR_282_l8 M M4 → (1 ≤ x3_1) → (x3_1 ≤ 256) → (0 ≤ x4_2) → (x4_2 ≤ 8) → (0 ≤ x5_3) → (x5_3 ≤ 8) → (x5_3 ≤ R) → (x4_2 ≤ D 0 1) → (x3_1 ≤ 2 ^ (x4_2).toNat) → (x3_1 = pPr (rAs s R) (x5_3).toNat) → (x4_2 = pSum (fun k => s (2 * k + 1).toNat) (x5_3).toNat) → (DGS s R x5_3 M4) → (2147483647 - x5_3).toNat < n6 → cP k_P xs Ln (d + 2) 282 8 [(0, rf 63), (1, (0, one)), (2, (0, where_)), (3, (0, x3_1)), (4, (0, x4_2)), (5, (0, x5_3))] [] (T, M4) (qW T M hR_282_m 0 (fun v M1 => v = wr32 (pWa D S s R (alO one where_)))) := by
    intro n6
    induction n6 with
    | zero => intro x3_1 x4_2 x5_3 M4 hI4 hFm4 fl4 i7 i8 i9 i10 i11 i12 i13 i14 i15 i16 i17 i18 hm19; exact absurd hm19 (Nat.not_lt_zero _)
    | succ n6 ih20 =>
      intro x3_1 x4_2 x5_3 M4 hI4 hFm4 fl4 i7 i8 i9 i10 i11 i12 i13 i14 i15 i16 i17 i18 hm19
      refine s_iload kx_282_8 rfl ?_
      refine s_aload_n kx_282_10 rfl ?_
      refine r_getI (k := 63) (f := 72) kx_282_11 kp_282_231 (tk_63 hT) kf_12_72 (fun _ => rfl) (rg_63_72 hI4) (fun v21 v21e v21a v21b => ?_)
      have v21S : v21 = R := v21e.symm.trans (RWS.fr hQ fl4 rfl (fun _ => rfl) (fun _ => rfl)).1
      have v21z : M 63 72 = v21 := ((fl4 63 72 rfl)).symm.trans v21e
      refine s_icmp_ge (t := 71) kx_282_14 (by decide) (fun hc22 => ?_) (fun hc22 => ?_)
      · have hsz : x3_1 = pPr (rAs s R) R.toNat := i16.trans (congrArg (fun z : Int => pPr (rAs s R) z.toNat) (show x5_3 = R by omega))
        have hsu : pSum (fun k => s (2 * k + 1).toNat) R.toNat ≤ D 0 1 := by have h9 := i17; rw [show x5_3 = R by omega] at h9; omega
        have hdg : DGS s R R M4 := by have h9 := i18; rw [show x5_3 = R by omega] at h9; exact h9
        refine s_iconst (v := 0) kx_282_71 (by decide) ?_
        refine s_istore kx_282_72 km_282_5 rfl ?_
        have key25 : ∀ n26 : Nat, ∀ (x5_23 : Int), ∀ M24 : cM, Rng M24 → Fr hR_282_m M M24 → Fr hR_282_l74 M4 M24 → (0 ≤ x5_23) → (x5_23 ≤ 256) → (x5_23 ≤ x3_1) → (ZR 110 x5_23 M24) → (2147483647 - x5_23).toNat < n26 → cP k_P xs Ln (d + 2) 282 74 [(0, rf 63), (1, (0, one)), (2, (0, where_)), (3, (0, x3_1)), (5, (0, x5_23))] [] (T, M24) (qW T M hR_282_m 0 (fun v M1 => v = wr32 (pWa D S s R (alO one where_)))) := by
          intro n26
          induction n26 with
          | zero => intro x5_23 M24 hI24 hFm24 fl24 i27 i28 i29 i30 hm31; exact absurd hm31 (Nat.not_lt_zero _)
          | succ n26 ih32 =>
            intro x5_23 M24 hI24 hFm24 fl24 i27 i28 i29 i30 hm31
            refine s_iload kx_282_74 rfl ?_
            refine s_iload_n kx_282_76 rfl ?_
            refine s_icmp_ge (t := 94) kx_282_77 (by decide) (fun hc33 => ?_) (fun hc33 => ?_)
            · refine s_aload_n kx_282_94 rfl ?_
              refine r_getR (k := 63) (f := 75) (k2 := 110) kx_282_95 kp_282_240 (tk_63 hT) kf_12_75 (by decide) (rq_63_75 hI24) ?_
              refine s_iconst (v := 0) kx_282_98 (by decide) ?_
              refine s_iconst (v := 1) kx_282_99 (by decide) ?_
              refine r_ast (k := 110) kx_282_100 (tk_110 hT) ⟨by decide, by decide⟩ hI24 ru_110 (fun M34 hI34 u34 => ?_)
              have hFm34 := hFm24.up u34 rfl
              have hc35 := (RR.up (RR.fr (RR.fr hR fl4 rfl) fl24 rfl) u34 (by omega))
              have hc36 := (RWS.up (RWS.fr (RWS.fr hQ fl4 rfl (fun _ => rfl) (fun _ => rfl)) fl24 rfl (fun _ => rfl) (fun _ => rfl)) u34 (by omega))
              refine s_iconst (v := 0) kx_282_101 (by decide) ?_
              refine s_istore kx_282_102 km_282_5 rfl ?_
              have key39 : ∀ n40 : Nat, ∀ (x5_37 : Int), ∀ M38 : cM, Rng M38 → Fr hR_282_m M M38 → Fr hR_282_l104 M34 M38 → (0 ≤ x5_37) → (x5_37 ≤ 8) → (x5_37 ≤ D 0 1) → (RWY D S s R (alO one where_) x5_37 M38) → (2147483647 - x5_37).toNat < n40 → cP k_P xs Ln (d + 2) 282 104 [(0, rf 63), (1, (0, one)), (2, (0, where_)), (3, (0, x3_1)), (5, (0, x5_37))] [] (T, M38) (qW T M hR_282_m 0 (fun v M1 => v = wr32 (pWa D S s R (alO one where_)))) := by
                intro n40
                induction n40 with
                | zero => intro x5_37 M38 hI38 hFm38 fl38 i41 i42 i43 i44 hm45; exact absurd hm45 (Nat.not_lt_zero _)
                | succ n40 ih46 =>
                  intro x5_37 M38 hI38 hFm38 fl38 i41 i42 i43 i44 hm45
                  have hq0 : True := trivial
                  refine s_iload kx_282_104 rfl ?_
                  refine s_aload_n kx_282_106 rfl ?_
                  refine r_getR (k := 63) (f := 19) (k2 := 69) kx_282_107 kp_282_69 (tk_63 hT) kf_12_19 (by decide) (rq_63_19 hI38) ?_
                  refine s_aload_n kx_282_110 rfl ?_
                  refine r_getI (k := 63) (f := 14) kx_282_111 kp_282_54 (tk_63 hT) kf_12_14 (fun _ => rfl) (rg_63_14 hI38) (fun v47 v47e v47a v47b => ?_)
                  have v47z : M 63 14 = v47 := (((fl38 63 14 rfl).trans ((u34.2 63 14 (by omega)).trans ((fl24 63 14 rfl).trans (fl4 63 14 rfl))))).symm.trans v47e
                  refine r_ald (k := 69) kx_282_114 (tk_69 hT) ⟨by omega, by omega⟩ (rg_69 hI38) (fun v48 v48e v48a v48b => ?_)
                  have v48d : D 0 1 = v48 := by have h9 := ((RR.fr hc35 fl38 rfl)).1.2.1; rw [v47e] at h9; exact h9.symm.trans v48e
                  refine s_icmp_ge (t := 333) kx_282_115 (by decide) (fun hc49 => ?_) (fun hc49 => ?_)
                  · refine s_aload_n kx_282_333 rfl ?_
                    refine r_getR (k := 63) (f := 75) (k2 := 110) kx_282_334 kp_282_240 (tk_63 hT) kf_12_75 (by decide) (rq_63_75 hI38) ?_
                    refine s_iload_n kx_282_337 rfl ?_
                    refine s_iconst (v := 1) kx_282_338 (by decide) ?_
                    refine r_sub kx_282_339 ⟨by omega, by omega⟩ ?_
                    refine r_aldU (k := 110) kx_282_340 (tk_110 hT) ⟨by omega, by omega⟩ (fun v50 v50e => ?_)
                    exact s_iret kx_282_341 (Or.inl kq_282) ⟨_, _, rfl, rfl, hI38, hFm38, (v50e.symm.trans (rtot hds hR8.1 (by omega) (by omega) i44 (by omega) hsu (by omega)))⟩
                  · refine s_iconst (v := 0) kx_282_118 (by decide) ?_
                    refine s_istore kx_282_119 km_282_6 rfl ?_
                    have key53 : ∀ n54 : Nat, ∀ (x6_51 : Int), ∀ M52 : cM, Rng M52 → Fr hR_282_m M M52 → Fr hR_282_l104 M34 M52 → Fr hR_282_l121 M38 M52 → (0 ≤ x6_51) → (x6_51 ≤ 256) → (x6_51 ≤ x3_1) → (ZR 111 x6_51 M52) → (2147483647 - x6_51).toNat < n54 → cP k_P xs Ln (d + 2) 282 121 [(0, rf 63), (1, (0, one)), (2, (0, where_)), (3, (0, x3_1)), (5, (0, x5_37)), (6, (0, x6_51))] [] (T, M52) (qW T M hR_282_m 0 (fun v M1 => v = wr32 (pWa D S s R (alO one where_)))) := by
                      intro n54
                      induction n54 with
                      | zero => intro x6_51 M52 hI52 hFm52 hFl10452 fl52 i55 i56 i57 i58 hm59; exact absurd hm59 (Nat.not_lt_zero _)
                      | succ n54 ih60 =>
                        intro x6_51 M52 hI52 hFm52 hFl10452 fl52 i55 i56 i57 i58 hm59
                        refine s_iload kx_282_121 rfl ?_
                        refine s_iload_n kx_282_123 rfl ?_
                        refine s_icmp_ge (t := 141) kx_282_124 (by decide) (fun hc61 => ?_) (fun hc61 => ?_)
                        · refine s_iconst (v := 0) kx_282_141 (by decide) ?_
                          refine s_istore kx_282_142 km_282_6 rfl ?_
                          have key64 : ∀ n65 : Nat, ∀ (x6_62 : Int), ∀ M63 : cM, Rng M63 → Fr hR_282_m M M63 → Fr hR_282_l104 M34 M63 → Fr hR_282_l144 M52 M63 → (0 ≤ x6_62) → (x6_62 ≤ 8) → (x6_62 ≤ D 0 0) → (THN D S s R (alO one where_) x5_37 x6_62 0 M63) → (2147483647 - x6_62).toNat < n65 → cP k_P xs Ln (d + 2) 282 144 [(0, rf 63), (1, (0, one)), (2, (0, where_)), (3, (0, x3_1)), (5, (0, x5_37)), (6, (0, x6_62))] [] (T, M63) (qW T M hR_282_m 0 (fun v M1 => v = wr32 (pWa D S s R (alO one where_)))) := by
                            intro n65
                            induction n65 with
                            | zero => intro x6_62 M63 hI63 hFm63 hFl10463 fl63 i66 i67 i68 i69 hm70; exact absurd hm70 (Nat.not_lt_zero _)
                            | succ n65 ih71 =>
                              intro x6_62 M63 hI63 hFm63 hFl10463 fl63 i66 i67 i68 i69 hm70
                              refine s_iload kx_282_144 rfl ?_
                              refine s_aload_n kx_282_146 rfl ?_
                              refine r_getR (k := 63) (f := 15) (k2 := 65) kx_282_147 kp_282_57 (tk_63 hT) kf_12_15 (by decide) (rq_63_15 hI63) ?_
                              refine s_aload_n kx_282_150 rfl ?_
                              refine r_getK (k := 63) (f := 14) kx_282_151 kp_282_54 (tk_63 hT) kf_12_14 (fun _ => rfl) ((fl63 63 14 rfl).trans ((fl52 63 14 rfl).trans v47e)) ?_
                              refine r_ald (k := 65) kx_282_154 (tk_65 hT) ⟨by omega, by omega⟩ (rg_65 hI63) (fun v72 v72e v72a v72b => ?_)
                              have v72d : D 0 0 = v72 := by have h9 := ((RR.fr (RR.fr (RR.fr hc35 fl38 rfl) fl52 rfl) fl63 rfl)).1.1; rw [((fl63 63 14 rfl).trans ((fl52 63 14 rfl).trans v47e))] at h9; exact h9.symm.trans v72e
                              refine s_icmp_ge (t := 298) kx_282_155 (by decide) (fun hc73 => ?_) (fun hc73 => ?_)
                              · refine s_iconst (v := 0) kx_282_298 (by decide) ?_
                                refine s_istore kx_282_299 km_282_6 rfl ?_
                                have key76 : ∀ n77 : Nat, ∀ (x6_74 : Int), ∀ M75 : cM, Rng M75 → Fr hR_282_m M M75 → Fr hR_282_l104 M34 M75 → Fr hR_282_l301 M63 M75 → (0 ≤ x6_74) → (x6_74 ≤ 256) → (x6_74 ≤ x3_1) → (CPY x6_74 M75) → (2147483647 - x6_74).toNat < n77 → cP k_P xs Ln (d + 2) 282 301 [(0, rf 63), (1, (0, one)), (2, (0, where_)), (3, (0, x3_1)), (5, (0, x5_37)), (6, (0, x6_74))] [] (T, M75) (qW T M hR_282_m 0 (fun v M1 => v = wr32 (pWa D S s R (alO one where_)))) := by
                                  intro n77
                                  induction n77 with
                                  | zero => intro x6_74 M75 hI75 hFm75 hFl10475 fl75 i78 i79 i80 i81 hm82; exact absurd hm82 (Nat.not_lt_zero _)
                                  | succ n77 ih83 =>
                                    intro x6_74 M75 hI75 hFm75 hFl10475 fl75 i78 i79 i80 i81 hm82
                                    refine s_iload kx_282_301 rfl ?_
                                    refine s_iload_n kx_282_303 rfl ?_
                                    refine s_icmp_ge (t := 327) kx_282_304 (by decide) (fun hc84 => ?_) (fun hc84 => ?_)
                                    · refine r_iinc kx_282_327 rfl km_282_5 (by decide) ⟨by omega, by omega⟩ rfl ?_
                                      refine s_goto (t := 104) kx_282_330 (by decide) ?_
                                      exact cP.wk (lS1 rfl (lS1 rfl (lS1 rfl (lS1 rfl (lS1 rfl lS0))))) (ih46 (x5_37 + 1) M75 hI75 hFm75 hFl10475 (by omega) (by omega) (by omega) (RWY.nx hds hR8.1 (THN.fr i69 fl75 (fun _ => rfl)) (by omega) (by omega) i81 (by omega)) (by omega))
                                    · refine s_aload_n kx_282_307 rfl ?_
                                      refine r_getR (k := 63) (f := 75) (k2 := 110) kx_282_308 kp_282_240 (tk_63 hT) kf_12_75 (by decide) (rq_63_75 hI75) ?_
                                      refine s_iload kx_282_311 rfl ?_
                                      refine s_aload_n kx_282_313 rfl ?_
                                      refine r_getR (k := 63) (f := 76) (k2 := 111) kx_282_314 kp_282_243 (tk_63 hT) kf_12_76 (by decide) (rq_63_76 hI75) ?_
                                      refine s_iload kx_282_317 rfl ?_
                                      refine r_aldU (k := 111) kx_282_319 (tk_111 hT) ⟨by omega, by omega⟩ (fun v85 v85e => ?_)
                                      refine r_ast (k := 110) kx_282_320 (tk_110 hT) ⟨by omega, by omega⟩ hI75 ru_110 (fun M86 hI86 u86 => ?_)
                                      have hFm86 := hFm75.up u86 rfl
                                      have hFl10486 := hFl10475.up u86 rfl
                                      have hFl30186 := fl75.up u86 rfl
                                      have hc87 := (RR.up (RR.fr (RR.fr (RR.fr (RR.fr hc35 fl38 rfl) fl52 rfl) fl63 rfl) fl75 rfl) u86 (by omega))
                                      have hc88 := (RWS.up (RWS.fr (RWS.fr (RWS.fr (RWS.fr hc36 fl38 rfl (fun _ => rfl) (fun _ => rfl)) fl52 rfl (fun _ => rfl) (fun _ => rfl)) fl63 rfl (fun _ => rfl) (fun _ => rfl)) fl75 rfl (fun _ => rfl) (fun _ => rfl)) u86 (by omega))
                                      refine r_iinc kx_282_321 rfl km_282_6 (by decide) ⟨by omega, by omega⟩ rfl ?_
                                      refine s_goto (t := 301) kx_282_324 (by decide) ?_
                                      exact cP.wk (lS1 rfl (lS1 rfl (lS1 rfl (lS1 rfl (lS1 rfl (lS1 rfl lS0)))))) (ih83 (x6_74 + 1) M86 hI86 hFm86 hFl10486 hFl30186 (by omega) (by omega) (by omega) (CPY.nx i81 (by omega) u86 rfl v85e) (by omega))
                                exact cP.wk (lS1 rfl (lS1 rfl (lS1 rfl (lS1 rfl (lS1 rfl (lS1 rfl lS0)))))) (key76 _ 0 M63 hI63 hFm63 hFl10463 Fr.refl (by omega) (by omega) (by omega) (fun t a b => absurd b (by omega)) (Nat.lt_succ_self _))
                              · refine s_iload kx_282_158 rfl ?_
                                refine s_iload_n kx_282_160 rfl ?_
                                refine s_icmp_ne (t := 173) kx_282_161 (by decide) (fun hc89 => ?_) (fun hc89 => ?_)
                                · refine s_aload_n kx_282_173 rfl ?_
                                  refine s_iload kx_282_174 rfl ?_
                                  refine s_iload kx_282_176 rfl ?_
                                  refine s_callV2 (k := 63) (s1 := 3) (s2 := 0) (as := [(0, x6_62), (0, x5_37)]) (rest := []) kx_282_178 kp_282_500 (Or.inl rfl) rfl (tk_63 hT) ki_243 kcl_243 rfl rfl (by decide) (g_243 (d := d) (p := x5_37) (r := x6_62) hT hI63 (RR.fr (RR.fr (RR.fr hc35 fl38 rfl) fl52 rfl) fl63 rfl) (by omega) (by omega)) (kF (fun v90 v90p => ?_))
                                  have hc91 := (RR.fr (RR.fr (RR.fr hc35 fl38 rfl) fl52 rfl) fl63 rfl)
                                  have hc92 := (RWS.fr (RWS.fr (RWS.fr hc36 fl38 rfl (fun _ => rfl) (fun _ => rfl)) fl52 rfl (fun _ => rfl) (fun _ => rfl)) fl63 rfl (fun _ => rfl) (fun _ => rfl))
                                  refine s_if_eq (t := 188) kx_282_181 (by decide) (fun hc93 => ?_) (fun hc93 => ?_)
                                  · replace v90p := v90p.resolve_left (by omega)
                                    refine s_aload_n kx_282_188 rfl ?_
                                    refine s_iload kx_282_189 rfl ?_
                                    refine s_callV2 (k := 63) (s1 := 2) (s2 := 0) (as := [(0, x6_62)]) (rest := []) kx_282_191 kp_282_600 (Or.inl rfl) rfl (tk_63 hT) ki_281 kcl_281 rfl rfl (by decide) (h_281 (d := d + 1) (r := x6_62) hT hI63 hc92 hds hR8) (kF (fun v94 v94p => ?_))
                                    refine s_istore kx_282_194 km_282_7 rfl ?_
                                    have hko : KOK D S s R x5_37 x6_62 v94 := KOK.ro hds hR8.1 ⟨by omega, by omega⟩ (by have h9 := v90p.2; omega) v94p.2.2
                                    refine s_iconst (v := 0) kx_282_196 (by decide) ?_
                                    refine s_istore kx_282_197 km_282_8 rfl ?_
                                    have key97 : ∀ n98 : Nat, ∀ (x8_95 : Int), ∀ M96 : cM, Rng M96 → Fr hR_282_m M M96 → Fr hR_282_l104 M34 M96 → Fr hR_282_l144 M52 M96 → Fr hR_282_l199 M63 M96 → (0 ≤ x8_95) → (x8_95 ≤ 256) → (x8_95 ≤ x3_1) → (THN D S s R (alO one where_) x5_37 x6_62 x8_95 M96) → (2147483647 - x8_95).toNat < n98 → cP k_P xs Ln (d + 2) 282 199 [(0, rf 63), (1, (0, one)), (2, (0, where_)), (3, (0, x3_1)), (5, (0, x5_37)), (6, (0, x6_62)), (7, (0, v94)), (8, (0, x8_95))] [] (T, M96) (qW T M hR_282_m 0 (fun v M1 => v = wr32 (pWa D S s R (alO one where_)))) := by
                                      intro n98
                                      induction n98 with
                                      | zero => intro x8_95 M96 hI96 hFm96 hFl10496 hFl14496 fl96 i99 i100 i101 i102 hm103; exact absurd hm103 (Nat.not_lt_zero _)
                                      | succ n98 ih104 =>
                                        intro x8_95 M96 hI96 hFm96 hFl10496 hFl14496 fl96 i99 i100 i101 i102 hm103
                                        refine s_iload kx_282_199 rfl ?_
                                        refine s_iload_n kx_282_201 rfl ?_
                                        refine s_icmp_ge (t := 292) kx_282_202 (by decide) (fun hc105 => ?_) (fun hc105 => ?_)
                                        · refine r_iinc kx_282_292 rfl km_282_6 (by decide) ⟨by omega, by omega⟩ rfl ?_
                                          refine s_goto (t := 144) kx_282_295 (by decide) ?_
                                          exact cP.wk (lS1 rfl (lS1 rfl (lS1 rfl (lS1 rfl (lS1 rfl (lS1 rfl lS0)))))) (ih71 (x6_62 + 1) M96 hI96 hFm96 hFl10496 hFl14496 (by omega) (by omega) (by omega) (THN.rm i102 (by omega) (by omega) (alO_1 (by omega))) (by omega))
                                        · refine s_iload kx_282_205 rfl ?_
                                          refine s_iconst (v := (-1)) kx_282_207 (by decide) ?_
                                          refine s_icmp_ne (t := 231) kx_282_208 (by decide) (fun hc106 => ?_) (fun hc106 => ?_)
                                          · have hk2 := (hko.resolve_left (by omega)).1
                                            refine s_iload kx_282_231 rfl ?_
                                            refine s_aload_n kx_282_233 rfl ?_
                                            refine r_getR (k := 63) (f := 77) (k2 := 112) kx_282_234 kp_282_246 (tk_63 hT) kf_12_77 (by decide) (rq_63_77 hI96) ?_
                                            refine s_iload kx_282_237 rfl ?_
                                            refine r_aldU (k := 112) kx_282_239 (tk_112 hT) ⟨by omega, by omega⟩ (fun v107 v107e => ?_)
                                            have v107g : pPr (rAs s R) (v94).toNat = v107 := ((DGS.fr (DGS.fr (DGS.fr (DGS.fr (DGS.up (DGS.fr hdg fl24 (fun _ => rfl)) u34 (by decide)) fl38 (fun _ => rfl)) fl52 (fun _ => rfl)) fl63 (fun _ => rfl)) fl96 (fun _ => rfl)) v94 (by omega) (by omega)).symm.trans v107e
                                            obtain ⟨q_, q1_, hq_⟩ := pPr_dvd (rAs_ge (R := R) hds) (show (v94).toNat < R.toNat by omega)
                                            have hw0 := hds.1 (2 * v94 + 1).toNat
                                            have hra : rAs s R (((v94).toNat : Nat) : Int) = s (2 * v94 + 1).toNat := by rw [show (((v94).toNat : Nat) : Int) = v94 by omega]; exact if_pos ⟨by omega, by omega⟩
                                            rw [hra, Int.add_comm 1 (s (2 * v94 + 1).toNat)] at hq_
                                            have hd3 := mixle (S := pPr (rAs s R) R.toNat) (p := v107) (w := s (2 * v94 + 1).toNat) (q := q_) (by have h9 := pPr_pos (rAs_ge (R := R) hds) (v94).toNat; omega) (by omega) (by omega) (by rw [← v107g]; exact hq_)
                                            have hdp := pPr_pos (rAs_ge (R := R) hds) (v94).toNat
                                            have hd1 := Int.ediv_nonneg (show 0 ≤ x8_95 by omega) (show 0 ≤ v107 by omega)
                                            have hd2 := Int.ediv_le_self v107 (show 0 ≤ x8_95 by omega)
                                            refine r_idiv kx_282_240 (by omega) (by omega) (by omega) (by omega) ?_
                                            refine s_iconst (v := 1) kx_282_241 (by decide) ?_
                                            refine s_aload_n kx_282_242 rfl ?_
                                            refine r_getR (k := 63) (f := 74) (k2 := 109) kx_282_243 kp_282_237 (tk_63 hT) kf_12_74 (by decide) (rq_63_74 hI96) ?_
                                            refine s_iload kx_282_246 rfl ?_
                                            refine r_ald (k := 109) kx_282_248 (tk_109 hT) ⟨by omega, by omega⟩ (rg_109 hI96) (fun v108 v108e v108a v108b => ?_)
                                            have v108w : s (2 * v94 + 1).toNat = v108 := ((RWS.fr hc92 fl96 rfl (fun _ => rfl) (fun _ => rfl)).2 v94 (by omega) (by omega)).2.symm.trans v108e
                                            refine r_add kx_282_249 ⟨by omega, by omega⟩ ?_
                                            refine r_irem kx_282_250 (by omega) (by omega) (by omega) (by omega) ?_
                                            refine s_aload_n kx_282_251 rfl ?_
                                            refine r_getR (k := 63) (f := 74) (k2 := 109) kx_282_252 kp_282_237 (tk_63 hT) kf_12_74 (by decide) (rq_63_74 hI96) ?_
                                            refine s_iload kx_282_255 rfl ?_
                                            refine r_aldK (k := 109) kx_282_257 (tk_109 hT) ⟨by omega, by omega⟩ v108e ?_
                                            refine s_icmp_ge (t := 286) kx_282_258 (by decide) (fun hc109 => ?_) (fun hc109 => ?_)
                                            · refine r_iinc kx_282_286 rfl km_282_8 (by decide) ⟨by omega, by omega⟩ rfl ?_
                                              refine s_goto (t := 199) kx_282_289 (by decide) ?_
                                              exact cP.wk (lS1 rfl (lS1 rfl (lS1 rfl (lS1 rfl (lS1 rfl (lS1 rfl (lS1 rfl (lS1 rfl lS0)))))))) (ih104 (x8_95 + 1) M96 hI96 hFm96 hFl10496 hFl14496 fl96 (by omega) (by omega) (by omega) (THN.no i102 (by omega) (by rw [rN_k hko (by omega), v107g, v108w, if_neg (by omega)])) (by omega))
                                            · refine s_aload_n kx_282_261 rfl ?_
                                              refine r_getR (k := 63) (f := 76) (k2 := 111) kx_282_262 kp_282_243 (tk_63 hT) kf_12_76 (by decide) (rq_63_76 hI96) ?_
                                              refine s_iload kx_282_265 rfl ?_
                                              refine s_aload_n kx_282_267 rfl ?_
                                              refine r_getR (k := 63) (f := 77) (k2 := 112) kx_282_268 kp_282_246 (tk_63 hT) kf_12_77 (by decide) (rq_63_77 hI96) ?_
                                              refine s_iload kx_282_271 rfl ?_
                                              refine r_aldK (k := 112) kx_282_273 (tk_112 hT) ⟨by omega, by omega⟩ v107e ?_
                                              have hmx := mixrad (s := x8_95) (S := pPr (rAs s R) R.toNat) (p := v107) (w := v108) (q := q_) (by omega) (by omega) (by omega) (by omega) (by rw [← v107g, ← v108w]; exact hq_) (by rw [Int.add_comm v108 1]; omega)
                                              refine r_add kx_282_274 ⟨by omega, by omega⟩ ?_
                                              refine s_dup2 kx_282_275 rfl rfl ?_
                                              refine r_aldU (k := 111) kx_282_276 (tk_111 hT) ⟨by omega, by omega⟩ (fun v110 v110e => ?_)
                                              refine s_aload_n kx_282_277 rfl ?_
                                              refine r_getR (k := 63) (f := 75) (k2 := 110) kx_282_278 kp_282_240 (tk_63 hT) kf_12_75 (by decide) (rq_63_75 hI96) ?_
                                              refine s_iload kx_282_281 rfl ?_
                                              refine r_aldU (k := 110) kx_282_283 (tk_110 hT) ⟨by omega, by omega⟩ (fun v111 v111e => ?_)
                                              refine s_iadd (z := (tbP v110 v111)) kx_282_284 rfl ?_
                                              refine r_ast (k := 111) kx_282_285 (tk_111 hT) ⟨by omega, by omega⟩ hI96 ru_111 (fun M112 hI112 u112 => ?_)
                                              have hFm112 := hFm96.up u112 rfl
                                              have hFl104112 := hFl10496.up u112 rfl
                                              have hFl144112 := hFl14496.up u112 rfl
                                              have hFl199112 := fl96.up u112 rfl
                                              have hc113 := (RR.up (RR.fr hc91 fl96 rfl) u112 (by omega))
                                              have hc114 := (RWS.up (RWS.fr hc92 fl96 rfl (fun _ => rfl) (fun _ => rfl)) u112 (by omega))
                                              refine r_iinc kx_282_286 rfl km_282_8 (by decide) ⟨by omega, by omega⟩ rfl ?_
                                              refine s_goto (t := 199) kx_282_289 (by decide) ?_
                                              exact cP.wk (lS1 rfl (lS1 rfl (lS1 rfl (lS1 rfl (lS1 rfl (lS1 rfl (lS1 rfl (lS1 rfl lS0)))))))) (ih104 (x8_95 + 1) M112 hI112 hFm112 hFl104112 hFl144112 hFl199112 (by omega) (by omega) (by omega) (THN.nx i102 (by omega) (by rw [rN_k hko (by omega), v107g, v108w, if_pos (by omega)]) ⟨by omega, by omega⟩ (((RWY.fr (RWY.fr (RWY.fr i44 fl52 (fun _ => rfl)) fl63 (fun _ => rfl)) fl96 (fun _ => rfl)) x8_95 (by omega) (by omega)).symm.trans v111e) rfl v110e u112) (by omega))
                                          · refine s_aload_n kx_282_211 rfl ?_
                                            refine r_getR (k := 63) (f := 76) (k2 := 111) kx_282_212 kp_282_243 (tk_63 hT) kf_12_76 (by decide) (rq_63_76 hI96) ?_
                                            refine s_iload kx_282_215 rfl ?_
                                            refine s_dup2 kx_282_217 rfl rfl ?_
                                            refine r_aldU (k := 111) kx_282_218 (tk_111 hT) ⟨by omega, by omega⟩ (fun v115 v115e => ?_)
                                            refine s_aload_n kx_282_219 rfl ?_
                                            refine r_getR (k := 63) (f := 75) (k2 := 110) kx_282_220 kp_282_240 (tk_63 hT) kf_12_75 (by decide) (rq_63_75 hI96) ?_
                                            refine s_iload kx_282_223 rfl ?_
                                            refine r_aldU (k := 110) kx_282_225 (tk_110 hT) ⟨by omega, by omega⟩ (fun v116 v116e => ?_)
                                            refine s_iadd (z := (tbP v115 v116)) kx_282_226 rfl ?_
                                            refine r_ast (k := 111) kx_282_227 (tk_111 hT) ⟨by omega, by omega⟩ hI96 ru_111 (fun M117 hI117 u117 => ?_)
                                            have hFm117 := hFm96.up u117 rfl
                                            have hFl104117 := hFl10496.up u117 rfl
                                            have hFl144117 := hFl14496.up u117 rfl
                                            have hFl199117 := fl96.up u117 rfl
                                            have hc118 := (RR.up (RR.fr hc91 fl96 rfl) u117 (by omega))
                                            have hc119 := (RWS.up (RWS.fr hc92 fl96 rfl (fun _ => rfl) (fun _ => rfl)) u117 (by omega))
                                            refine s_goto (t := 286) kx_282_228 (by decide) ?_
                                            refine r_iinc kx_282_286 rfl km_282_8 (by decide) ⟨by omega, by omega⟩ rfl ?_
                                            refine s_goto (t := 199) kx_282_289 (by decide) ?_
                                            exact cP.wk (lS1 rfl (lS1 rfl (lS1 rfl (lS1 rfl (lS1 rfl (lS1 rfl (lS1 rfl (lS1 rfl lS0)))))))) (ih104 (x8_95 + 1) M117 hI117 hFm117 hFl104117 hFl144117 hFl199117 (by omega) (by omega) (by omega) (THN.nx i102 (by omega) (rN_f hko (by omega)) ⟨by omega, by omega⟩ (((RWY.fr (RWY.fr (RWY.fr i44 fl52 (fun _ => rfl)) fl63 (fun _ => rfl)) fl96 (fun _ => rfl)) x8_95 (by omega) (by omega)).symm.trans v116e) rfl v115e u117) (by omega))
                                    exact cP.wk (lS1 rfl (lS1 rfl (lS1 rfl (lS1 rfl (lS1 rfl (lS1 rfl (lS1 rfl (lS1 rfl lS0)))))))) (key97 _ 0 M63 hI63 hFm63 hFl10463 fl63 Fr.refl (by omega) (by omega) (by omega) i69 (Nat.lt_succ_self _))
                                  · replace v90p := v90p.resolve_right (by omega)
                                    refine s_iconst (v := (-1)) kx_282_184 (by decide) ?_
                                    refine s_goto (t := 194) kx_282_185 (by decide) ?_
                                    refine s_istore kx_282_194 km_282_7 rfl ?_
                                    have hko : KOK D S s R x5_37 x6_62 (-1) := KOK.w v90p.2
                                    refine s_iconst (v := 0) kx_282_196 (by decide) ?_
                                    refine s_istore kx_282_197 km_282_8 rfl ?_
                                    have key122 : ∀ n123 : Nat, ∀ (x8_120 : Int), ∀ M121 : cM, Rng M121 → Fr hR_282_m M M121 → Fr hR_282_l104 M34 M121 → Fr hR_282_l144 M52 M121 → Fr hR_282_l199 M63 M121 → (0 ≤ x8_120) → (x8_120 ≤ 256) → (x8_120 ≤ x3_1) → (THN D S s R (alO one where_) x5_37 x6_62 x8_120 M121) → (2147483647 - x8_120).toNat < n123 → cP k_P xs Ln (d + 2) 282 199 [(0, rf 63), (1, (0, one)), (2, (0, where_)), (3, (0, x3_1)), (5, (0, x5_37)), (6, (0, x6_62)), (7, (0, (-1))), (8, (0, x8_120))] [] (T, M121) (qW T M hR_282_m 0 (fun v M1 => v = wr32 (pWa D S s R (alO one where_)))) := by
                                      intro n123
                                      induction n123 with
                                      | zero => intro x8_120 M121 hI121 hFm121 hFl104121 hFl144121 fl121 i124 i125 i126 i127 hm128; exact absurd hm128 (Nat.not_lt_zero _)
                                      | succ n123 ih129 =>
                                        intro x8_120 M121 hI121 hFm121 hFl104121 hFl144121 fl121 i124 i125 i126 i127 hm128
                                        refine s_iload kx_282_199 rfl ?_
                                        refine s_iload_n kx_282_201 rfl ?_
                                        refine s_icmp_ge (t := 292) kx_282_202 (by decide) (fun hc130 => ?_) (fun hc130 => ?_)
                                        · refine r_iinc kx_282_292 rfl km_282_6 (by decide) ⟨by omega, by omega⟩ rfl ?_
                                          refine s_goto (t := 144) kx_282_295 (by decide) ?_
                                          exact cP.wk (lS1 rfl (lS1 rfl (lS1 rfl (lS1 rfl (lS1 rfl (lS1 rfl lS0)))))) (ih71 (x6_62 + 1) M121 hI121 hFm121 hFl104121 hFl144121 (by omega) (by omega) (by omega) (THN.rm i127 (by omega) (by omega) (alO_1 (by omega))) (by omega))
                                        · refine s_iload kx_282_205 rfl ?_
                                          refine s_iconst (v := (-1)) kx_282_207 (by decide) ?_
                                          refine s_icmp_ne (t := 231) kx_282_208 (by decide) (fun hc131 => absurd hc131 (by decide)) (fun hc131 => ?_)
                                          refine s_aload_n kx_282_211 rfl ?_
                                          refine r_getR (k := 63) (f := 76) (k2 := 111) kx_282_212 kp_282_243 (tk_63 hT) kf_12_76 (by decide) (rq_63_76 hI121) ?_
                                          refine s_iload kx_282_215 rfl ?_
                                          refine s_dup2 kx_282_217 rfl rfl ?_
                                          refine r_aldU (k := 111) kx_282_218 (tk_111 hT) ⟨by omega, by omega⟩ (fun v132 v132e => ?_)
                                          refine s_aload_n kx_282_219 rfl ?_
                                          refine r_getR (k := 63) (f := 75) (k2 := 110) kx_282_220 kp_282_240 (tk_63 hT) kf_12_75 (by decide) (rq_63_75 hI121) ?_
                                          refine s_iload kx_282_223 rfl ?_
                                          refine r_aldU (k := 110) kx_282_225 (tk_110 hT) ⟨by omega, by omega⟩ (fun v133 v133e => ?_)
                                          refine s_iadd (z := (tbP v132 v133)) kx_282_226 rfl ?_
                                          refine r_ast (k := 111) kx_282_227 (tk_111 hT) ⟨by omega, by omega⟩ hI121 ru_111 (fun M134 hI134 u134 => ?_)
                                          have hFm134 := hFm121.up u134 rfl
                                          have hFl104134 := hFl104121.up u134 rfl
                                          have hFl144134 := hFl144121.up u134 rfl
                                          have hFl199134 := fl121.up u134 rfl
                                          have hc135 := (RR.up (RR.fr hc91 fl121 rfl) u134 (by omega))
                                          have hc136 := (RWS.up (RWS.fr hc92 fl121 rfl (fun _ => rfl) (fun _ => rfl)) u134 (by omega))
                                          refine s_goto (t := 286) kx_282_228 (by decide) ?_
                                          refine r_iinc kx_282_286 rfl km_282_8 (by decide) ⟨by omega, by omega⟩ rfl ?_
                                          refine s_goto (t := 199) kx_282_289 (by decide) ?_
                                          exact cP.wk (lS1 rfl (lS1 rfl (lS1 rfl (lS1 rfl (lS1 rfl (lS1 rfl (lS1 rfl (lS1 rfl lS0)))))))) (ih129 (x8_120 + 1) M134 hI134 hFm134 hFl104134 hFl144134 hFl199134 (by omega) (by omega) (by omega) (THN.nx i127 (by omega) (rN_f hko (by omega)) ⟨by omega, by omega⟩ (((RWY.fr (RWY.fr (RWY.fr i44 fl52 (fun _ => rfl)) fl63 (fun _ => rfl)) fl121 (fun _ => rfl)) x8_120 (by omega) (by omega)).symm.trans v133e) rfl v132e u134) (by omega))
                                    exact cP.wk (lS1 rfl (lS1 rfl (lS1 rfl (lS1 rfl (lS1 rfl (lS1 rfl (lS1 rfl (lS1 rfl lS0)))))))) (key122 _ 0 M63 hI63 hFm63 hFl10463 fl63 Fr.refl (by omega) (by omega) (by omega) i69 (Nat.lt_succ_self _))
                                · refine s_iload kx_282_164 rfl ?_
                                  refine s_iload_n kx_282_166 rfl ?_
                                  refine s_icmp_eq (t := 173) kx_282_167 (by decide) (fun hc137 => ?_) (fun hc137 => ?_)
                                  · refine s_aload_n kx_282_173 rfl ?_
                                    refine s_iload kx_282_174 rfl ?_
                                    refine s_iload kx_282_176 rfl ?_
                                    refine s_callV2 (k := 63) (s1 := 3) (s2 := 0) (as := [(0, x6_62), (0, x5_37)]) (rest := []) kx_282_178 kp_282_500 (Or.inl rfl) rfl (tk_63 hT) ki_243 kcl_243 rfl rfl (by decide) (g_243 (d := d) (p := x5_37) (r := x6_62) hT hI63 (RR.fr (RR.fr (RR.fr hc35 fl38 rfl) fl52 rfl) fl63 rfl) (by omega) (by omega)) (kF (fun v138 v138p => ?_))
                                    have hc139 := (RR.fr (RR.fr (RR.fr hc35 fl38 rfl) fl52 rfl) fl63 rfl)
                                    have hc140 := (RWS.fr (RWS.fr (RWS.fr hc36 fl38 rfl (fun _ => rfl) (fun _ => rfl)) fl52 rfl (fun _ => rfl) (fun _ => rfl)) fl63 rfl (fun _ => rfl) (fun _ => rfl))
                                    refine s_if_eq (t := 188) kx_282_181 (by decide) (fun hc141 => ?_) (fun hc141 => ?_)
                                    · replace v138p := v138p.resolve_left (by omega)
                                      refine s_aload_n kx_282_188 rfl ?_
                                      refine s_iload kx_282_189 rfl ?_
                                      refine s_callV2 (k := 63) (s1 := 2) (s2 := 0) (as := [(0, x6_62)]) (rest := []) kx_282_191 kp_282_600 (Or.inl rfl) rfl (tk_63 hT) ki_281 kcl_281 rfl rfl (by decide) (h_281 (d := d + 1) (r := x6_62) hT hI63 hc140 hds hR8) (kF (fun v142 v142p => ?_))
                                      refine s_istore kx_282_194 km_282_7 rfl ?_
                                      have hko : KOK D S s R x5_37 x6_62 v142 := KOK.ro hds hR8.1 ⟨by omega, by omega⟩ (by have h9 := v138p.2; omega) v142p.2.2
                                      refine s_iconst (v := 0) kx_282_196 (by decide) ?_
                                      refine s_istore kx_282_197 km_282_8 rfl ?_
                                      have key145 : ∀ n146 : Nat, ∀ (x8_143 : Int), ∀ M144 : cM, Rng M144 → Fr hR_282_m M M144 → Fr hR_282_l104 M34 M144 → Fr hR_282_l144 M52 M144 → Fr hR_282_l199 M63 M144 → (0 ≤ x8_143) → (x8_143 ≤ 256) → (x8_143 ≤ x3_1) → (THN D S s R (alO one where_) x5_37 x6_62 x8_143 M144) → (2147483647 - x8_143).toNat < n146 → cP k_P xs Ln (d + 2) 282 199 [(0, rf 63), (1, (0, one)), (2, (0, where_)), (3, (0, x3_1)), (5, (0, x5_37)), (6, (0, x6_62)), (7, (0, v142)), (8, (0, x8_143))] [] (T, M144) (qW T M hR_282_m 0 (fun v M1 => v = wr32 (pWa D S s R (alO one where_)))) := by
                                        intro n146
                                        induction n146 with
                                        | zero => intro x8_143 M144 hI144 hFm144 hFl104144 hFl144144 fl144 i147 i148 i149 i150 hm151; exact absurd hm151 (Nat.not_lt_zero _)
                                        | succ n146 ih152 =>
                                          intro x8_143 M144 hI144 hFm144 hFl104144 hFl144144 fl144 i147 i148 i149 i150 hm151
                                          refine s_iload kx_282_199 rfl ?_
                                          refine s_iload_n kx_282_201 rfl ?_
                                          refine s_icmp_ge (t := 292) kx_282_202 (by decide) (fun hc153 => ?_) (fun hc153 => ?_)
                                          · refine r_iinc kx_282_292 rfl km_282_6 (by decide) ⟨by omega, by omega⟩ rfl ?_
                                            refine s_goto (t := 144) kx_282_295 (by decide) ?_
                                            exact cP.wk (lS1 rfl (lS1 rfl (lS1 rfl (lS1 rfl (lS1 rfl (lS1 rfl lS0)))))) (ih71 (x6_62 + 1) M144 hI144 hFm144 hFl104144 hFl144144 (by omega) (by omega) (by omega) (THN.rm i150 (by omega) (by omega) (alO_1 (by omega))) (by omega))
                                          · refine s_iload kx_282_205 rfl ?_
                                            refine s_iconst (v := (-1)) kx_282_207 (by decide) ?_
                                            refine s_icmp_ne (t := 231) kx_282_208 (by decide) (fun hc154 => ?_) (fun hc154 => ?_)
                                            · have hk2 := (hko.resolve_left (by omega)).1
                                              refine s_iload kx_282_231 rfl ?_
                                              refine s_aload_n kx_282_233 rfl ?_
                                              refine r_getR (k := 63) (f := 77) (k2 := 112) kx_282_234 kp_282_246 (tk_63 hT) kf_12_77 (by decide) (rq_63_77 hI144) ?_
                                              refine s_iload kx_282_237 rfl ?_
                                              refine r_aldU (k := 112) kx_282_239 (tk_112 hT) ⟨by omega, by omega⟩ (fun v155 v155e => ?_)
                                              have v155g : pPr (rAs s R) (v142).toNat = v155 := ((DGS.fr (DGS.fr (DGS.fr (DGS.fr (DGS.up (DGS.fr hdg fl24 (fun _ => rfl)) u34 (by decide)) fl38 (fun _ => rfl)) fl52 (fun _ => rfl)) fl63 (fun _ => rfl)) fl144 (fun _ => rfl)) v142 (by omega) (by omega)).symm.trans v155e
                                              obtain ⟨q_, q1_, hq_⟩ := pPr_dvd (rAs_ge (R := R) hds) (show (v142).toNat < R.toNat by omega)
                                              have hw0 := hds.1 (2 * v142 + 1).toNat
                                              have hra : rAs s R (((v142).toNat : Nat) : Int) = s (2 * v142 + 1).toNat := by rw [show (((v142).toNat : Nat) : Int) = v142 by omega]; exact if_pos ⟨by omega, by omega⟩
                                              rw [hra, Int.add_comm 1 (s (2 * v142 + 1).toNat)] at hq_
                                              have hd3 := mixle (S := pPr (rAs s R) R.toNat) (p := v155) (w := s (2 * v142 + 1).toNat) (q := q_) (by have h9 := pPr_pos (rAs_ge (R := R) hds) (v142).toNat; omega) (by omega) (by omega) (by rw [← v155g]; exact hq_)
                                              have hdp := pPr_pos (rAs_ge (R := R) hds) (v142).toNat
                                              have hd1 := Int.ediv_nonneg (show 0 ≤ x8_143 by omega) (show 0 ≤ v155 by omega)
                                              have hd2 := Int.ediv_le_self v155 (show 0 ≤ x8_143 by omega)
                                              refine r_idiv kx_282_240 (by omega) (by omega) (by omega) (by omega) ?_
                                              refine s_iconst (v := 1) kx_282_241 (by decide) ?_
                                              refine s_aload_n kx_282_242 rfl ?_
                                              refine r_getR (k := 63) (f := 74) (k2 := 109) kx_282_243 kp_282_237 (tk_63 hT) kf_12_74 (by decide) (rq_63_74 hI144) ?_
                                              refine s_iload kx_282_246 rfl ?_
                                              refine r_ald (k := 109) kx_282_248 (tk_109 hT) ⟨by omega, by omega⟩ (rg_109 hI144) (fun v156 v156e v156a v156b => ?_)
                                              have v156w : s (2 * v142 + 1).toNat = v156 := ((RWS.fr hc140 fl144 rfl (fun _ => rfl) (fun _ => rfl)).2 v142 (by omega) (by omega)).2.symm.trans v156e
                                              refine r_add kx_282_249 ⟨by omega, by omega⟩ ?_
                                              refine r_irem kx_282_250 (by omega) (by omega) (by omega) (by omega) ?_
                                              refine s_aload_n kx_282_251 rfl ?_
                                              refine r_getR (k := 63) (f := 74) (k2 := 109) kx_282_252 kp_282_237 (tk_63 hT) kf_12_74 (by decide) (rq_63_74 hI144) ?_
                                              refine s_iload kx_282_255 rfl ?_
                                              refine r_aldK (k := 109) kx_282_257 (tk_109 hT) ⟨by omega, by omega⟩ v156e ?_
                                              refine s_icmp_ge (t := 286) kx_282_258 (by decide) (fun hc157 => ?_) (fun hc157 => ?_)
                                              · refine r_iinc kx_282_286 rfl km_282_8 (by decide) ⟨by omega, by omega⟩ rfl ?_
                                                refine s_goto (t := 199) kx_282_289 (by decide) ?_
                                                exact cP.wk (lS1 rfl (lS1 rfl (lS1 rfl (lS1 rfl (lS1 rfl (lS1 rfl (lS1 rfl (lS1 rfl lS0)))))))) (ih152 (x8_143 + 1) M144 hI144 hFm144 hFl104144 hFl144144 fl144 (by omega) (by omega) (by omega) (THN.no i150 (by omega) (by rw [rN_k hko (by omega), v155g, v156w, if_neg (by omega)])) (by omega))
                                              · refine s_aload_n kx_282_261 rfl ?_
                                                refine r_getR (k := 63) (f := 76) (k2 := 111) kx_282_262 kp_282_243 (tk_63 hT) kf_12_76 (by decide) (rq_63_76 hI144) ?_
                                                refine s_iload kx_282_265 rfl ?_
                                                refine s_aload_n kx_282_267 rfl ?_
                                                refine r_getR (k := 63) (f := 77) (k2 := 112) kx_282_268 kp_282_246 (tk_63 hT) kf_12_77 (by decide) (rq_63_77 hI144) ?_
                                                refine s_iload kx_282_271 rfl ?_
                                                refine r_aldK (k := 112) kx_282_273 (tk_112 hT) ⟨by omega, by omega⟩ v155e ?_
                                                have hmx := mixrad (s := x8_143) (S := pPr (rAs s R) R.toNat) (p := v155) (w := v156) (q := q_) (by omega) (by omega) (by omega) (by omega) (by rw [← v155g, ← v156w]; exact hq_) (by rw [Int.add_comm v156 1]; omega)
                                                refine r_add kx_282_274 ⟨by omega, by omega⟩ ?_
                                                refine s_dup2 kx_282_275 rfl rfl ?_
                                                refine r_aldU (k := 111) kx_282_276 (tk_111 hT) ⟨by omega, by omega⟩ (fun v158 v158e => ?_)
                                                refine s_aload_n kx_282_277 rfl ?_
                                                refine r_getR (k := 63) (f := 75) (k2 := 110) kx_282_278 kp_282_240 (tk_63 hT) kf_12_75 (by decide) (rq_63_75 hI144) ?_
                                                refine s_iload kx_282_281 rfl ?_
                                                refine r_aldU (k := 110) kx_282_283 (tk_110 hT) ⟨by omega, by omega⟩ (fun v159 v159e => ?_)
                                                refine s_iadd (z := (tbP v158 v159)) kx_282_284 rfl ?_
                                                refine r_ast (k := 111) kx_282_285 (tk_111 hT) ⟨by omega, by omega⟩ hI144 ru_111 (fun M160 hI160 u160 => ?_)
                                                have hFm160 := hFm144.up u160 rfl
                                                have hFl104160 := hFl104144.up u160 rfl
                                                have hFl144160 := hFl144144.up u160 rfl
                                                have hFl199160 := fl144.up u160 rfl
                                                have hc161 := (RR.up (RR.fr hc139 fl144 rfl) u160 (by omega))
                                                have hc162 := (RWS.up (RWS.fr hc140 fl144 rfl (fun _ => rfl) (fun _ => rfl)) u160 (by omega))
                                                refine r_iinc kx_282_286 rfl km_282_8 (by decide) ⟨by omega, by omega⟩ rfl ?_
                                                refine s_goto (t := 199) kx_282_289 (by decide) ?_
                                                exact cP.wk (lS1 rfl (lS1 rfl (lS1 rfl (lS1 rfl (lS1 rfl (lS1 rfl (lS1 rfl (lS1 rfl lS0)))))))) (ih152 (x8_143 + 1) M160 hI160 hFm160 hFl104160 hFl144160 hFl199160 (by omega) (by omega) (by omega) (THN.nx i150 (by omega) (by rw [rN_k hko (by omega), v155g, v156w, if_pos (by omega)]) ⟨by omega, by omega⟩ (((RWY.fr (RWY.fr (RWY.fr i44 fl52 (fun _ => rfl)) fl63 (fun _ => rfl)) fl144 (fun _ => rfl)) x8_143 (by omega) (by omega)).symm.trans v159e) rfl v158e u160) (by omega))
                                            · refine s_aload_n kx_282_211 rfl ?_
                                              refine r_getR (k := 63) (f := 76) (k2 := 111) kx_282_212 kp_282_243 (tk_63 hT) kf_12_76 (by decide) (rq_63_76 hI144) ?_
                                              refine s_iload kx_282_215 rfl ?_
                                              refine s_dup2 kx_282_217 rfl rfl ?_
                                              refine r_aldU (k := 111) kx_282_218 (tk_111 hT) ⟨by omega, by omega⟩ (fun v163 v163e => ?_)
                                              refine s_aload_n kx_282_219 rfl ?_
                                              refine r_getR (k := 63) (f := 75) (k2 := 110) kx_282_220 kp_282_240 (tk_63 hT) kf_12_75 (by decide) (rq_63_75 hI144) ?_
                                              refine s_iload kx_282_223 rfl ?_
                                              refine r_aldU (k := 110) kx_282_225 (tk_110 hT) ⟨by omega, by omega⟩ (fun v164 v164e => ?_)
                                              refine s_iadd (z := (tbP v163 v164)) kx_282_226 rfl ?_
                                              refine r_ast (k := 111) kx_282_227 (tk_111 hT) ⟨by omega, by omega⟩ hI144 ru_111 (fun M165 hI165 u165 => ?_)
                                              have hFm165 := hFm144.up u165 rfl
                                              have hFl104165 := hFl104144.up u165 rfl
                                              have hFl144165 := hFl144144.up u165 rfl
                                              have hFl199165 := fl144.up u165 rfl
                                              have hc166 := (RR.up (RR.fr hc139 fl144 rfl) u165 (by omega))
                                              have hc167 := (RWS.up (RWS.fr hc140 fl144 rfl (fun _ => rfl) (fun _ => rfl)) u165 (by omega))
                                              refine s_goto (t := 286) kx_282_228 (by decide) ?_
                                              refine r_iinc kx_282_286 rfl km_282_8 (by decide) ⟨by omega, by omega⟩ rfl ?_
                                              refine s_goto (t := 199) kx_282_289 (by decide) ?_
                                              exact cP.wk (lS1 rfl (lS1 rfl (lS1 rfl (lS1 rfl (lS1 rfl (lS1 rfl (lS1 rfl (lS1 rfl lS0)))))))) (ih152 (x8_143 + 1) M165 hI165 hFm165 hFl104165 hFl144165 hFl199165 (by omega) (by omega) (by omega) (THN.nx i150 (by omega) (rN_f hko (by omega)) ⟨by omega, by omega⟩ (((RWY.fr (RWY.fr (RWY.fr i44 fl52 (fun _ => rfl)) fl63 (fun _ => rfl)) fl144 (fun _ => rfl)) x8_143 (by omega) (by omega)).symm.trans v164e) rfl v163e u165) (by omega))
                                      exact cP.wk (lS1 rfl (lS1 rfl (lS1 rfl (lS1 rfl (lS1 rfl (lS1 rfl (lS1 rfl (lS1 rfl lS0)))))))) (key145 _ 0 M63 hI63 hFm63 hFl10463 fl63 Fr.refl (by omega) (by omega) (by omega) i69 (Nat.lt_succ_self _))
                                    · replace v138p := v138p.resolve_right (by omega)
                                      refine s_iconst (v := (-1)) kx_282_184 (by decide) ?_
                                      refine s_goto (t := 194) kx_282_185 (by decide) ?_
                                      refine s_istore kx_282_194 km_282_7 rfl ?_
                                      have hko : KOK D S s R x5_37 x6_62 (-1) := KOK.w v138p.2
                                      refine s_iconst (v := 0) kx_282_196 (by decide) ?_
                                      refine s_istore kx_282_197 km_282_8 rfl ?_
                                      have key170 : ∀ n171 : Nat, ∀ (x8_168 : Int), ∀ M169 : cM, Rng M169 → Fr hR_282_m M M169 → Fr hR_282_l104 M34 M169 → Fr hR_282_l144 M52 M169 → Fr hR_282_l199 M63 M169 → (0 ≤ x8_168) → (x8_168 ≤ 256) → (x8_168 ≤ x3_1) → (THN D S s R (alO one where_) x5_37 x6_62 x8_168 M169) → (2147483647 - x8_168).toNat < n171 → cP k_P xs Ln (d + 2) 282 199 [(0, rf 63), (1, (0, one)), (2, (0, where_)), (3, (0, x3_1)), (5, (0, x5_37)), (6, (0, x6_62)), (7, (0, (-1))), (8, (0, x8_168))] [] (T, M169) (qW T M hR_282_m 0 (fun v M1 => v = wr32 (pWa D S s R (alO one where_)))) := by
                                        intro n171
                                        induction n171 with
                                        | zero => intro x8_168 M169 hI169 hFm169 hFl104169 hFl144169 fl169 i172 i173 i174 i175 hm176; exact absurd hm176 (Nat.not_lt_zero _)
                                        | succ n171 ih177 =>
                                          intro x8_168 M169 hI169 hFm169 hFl104169 hFl144169 fl169 i172 i173 i174 i175 hm176
                                          refine s_iload kx_282_199 rfl ?_
                                          refine s_iload_n kx_282_201 rfl ?_
                                          refine s_icmp_ge (t := 292) kx_282_202 (by decide) (fun hc178 => ?_) (fun hc178 => ?_)
                                          · refine r_iinc kx_282_292 rfl km_282_6 (by decide) ⟨by omega, by omega⟩ rfl ?_
                                            refine s_goto (t := 144) kx_282_295 (by decide) ?_
                                            exact cP.wk (lS1 rfl (lS1 rfl (lS1 rfl (lS1 rfl (lS1 rfl (lS1 rfl lS0)))))) (ih71 (x6_62 + 1) M169 hI169 hFm169 hFl104169 hFl144169 (by omega) (by omega) (by omega) (THN.rm i175 (by omega) (by omega) (alO_1 (by omega))) (by omega))
                                          · refine s_iload kx_282_205 rfl ?_
                                            refine s_iconst (v := (-1)) kx_282_207 (by decide) ?_
                                            refine s_icmp_ne (t := 231) kx_282_208 (by decide) (fun hc179 => absurd hc179 (by decide)) (fun hc179 => ?_)
                                            refine s_aload_n kx_282_211 rfl ?_
                                            refine r_getR (k := 63) (f := 76) (k2 := 111) kx_282_212 kp_282_243 (tk_63 hT) kf_12_76 (by decide) (rq_63_76 hI169) ?_
                                            refine s_iload kx_282_215 rfl ?_
                                            refine s_dup2 kx_282_217 rfl rfl ?_
                                            refine r_aldU (k := 111) kx_282_218 (tk_111 hT) ⟨by omega, by omega⟩ (fun v180 v180e => ?_)
                                            refine s_aload_n kx_282_219 rfl ?_
                                            refine r_getR (k := 63) (f := 75) (k2 := 110) kx_282_220 kp_282_240 (tk_63 hT) kf_12_75 (by decide) (rq_63_75 hI169) ?_
                                            refine s_iload kx_282_223 rfl ?_
                                            refine r_aldU (k := 110) kx_282_225 (tk_110 hT) ⟨by omega, by omega⟩ (fun v181 v181e => ?_)
                                            refine s_iadd (z := (tbP v180 v181)) kx_282_226 rfl ?_
                                            refine r_ast (k := 111) kx_282_227 (tk_111 hT) ⟨by omega, by omega⟩ hI169 ru_111 (fun M182 hI182 u182 => ?_)
                                            have hFm182 := hFm169.up u182 rfl
                                            have hFl104182 := hFl104169.up u182 rfl
                                            have hFl144182 := hFl144169.up u182 rfl
                                            have hFl199182 := fl169.up u182 rfl
                                            have hc183 := (RR.up (RR.fr hc139 fl169 rfl) u182 (by omega))
                                            have hc184 := (RWS.up (RWS.fr hc140 fl169 rfl (fun _ => rfl) (fun _ => rfl)) u182 (by omega))
                                            refine s_goto (t := 286) kx_282_228 (by decide) ?_
                                            refine r_iinc kx_282_286 rfl km_282_8 (by decide) ⟨by omega, by omega⟩ rfl ?_
                                            refine s_goto (t := 199) kx_282_289 (by decide) ?_
                                            exact cP.wk (lS1 rfl (lS1 rfl (lS1 rfl (lS1 rfl (lS1 rfl (lS1 rfl (lS1 rfl (lS1 rfl lS0)))))))) (ih177 (x8_168 + 1) M182 hI182 hFm182 hFl104182 hFl144182 hFl199182 (by omega) (by omega) (by omega) (THN.nx i175 (by omega) (rN_f hko (by omega)) ⟨by omega, by omega⟩ (((RWY.fr (RWY.fr (RWY.fr i44 fl52 (fun _ => rfl)) fl63 (fun _ => rfl)) fl169 (fun _ => rfl)) x8_168 (by omega) (by omega)).symm.trans v181e) rfl v180e u182) (by omega))
                                      exact cP.wk (lS1 rfl (lS1 rfl (lS1 rfl (lS1 rfl (lS1 rfl (lS1 rfl (lS1 rfl (lS1 rfl lS0)))))))) (key170 _ 0 M63 hI63 hFm63 hFl10463 fl63 Fr.refl (by omega) (by omega) (by omega) i69 (Nat.lt_succ_self _))
                                  · refine s_goto (t := 292) kx_282_170 (by decide) ?_
                                    refine r_iinc kx_282_292 rfl km_282_6 (by decide) ⟨by omega, by omega⟩ rfl ?_
                                    refine s_goto (t := 144) kx_282_295 (by decide) ?_
                                    exact cP.wk (lS1 rfl (lS1 rfl (lS1 rfl (lS1 rfl (lS1 rfl (lS1 rfl lS0)))))) (ih71 (x6_62 + 1) M63 hI63 hFm63 hFl10463 fl63 (by omega) (by omega) (by omega) (THN.sk i69 (by omega) (alO_0 (by omega))) (by omega))
                          exact cP.wk (lS1 rfl (lS1 rfl (lS1 rfl (lS1 rfl (lS1 rfl (lS1 rfl lS0)))))) (key64 _ 0 M52 hI52 hFm52 hFl10452 Fr.refl (by omega) (by omega) (by omega) (THN.st i58 (by omega)) (Nat.lt_succ_self _))
                        · refine s_aload_n kx_282_127 rfl ?_
                          refine r_getR (k := 63) (f := 76) (k2 := 111) kx_282_128 kp_282_243 (tk_63 hT) kf_12_76 (by decide) (rq_63_76 hI52) ?_
                          refine s_iload kx_282_131 rfl ?_
                          refine s_iconst (v := 0) kx_282_133 (by decide) ?_
                          refine r_ast (k := 111) kx_282_134 (tk_111 hT) ⟨by omega, by omega⟩ hI52 ru_111 (fun M185 hI185 u185 => ?_)
                          have hFm185 := hFm52.up u185 rfl
                          have hFl104185 := hFl10452.up u185 rfl
                          have hFl121185 := fl52.up u185 rfl
                          have hc186 := (RR.up (RR.fr (RR.fr hc35 fl38 rfl) fl52 rfl) u185 (by omega))
                          have hc187 := (RWS.up (RWS.fr (RWS.fr hc36 fl38 rfl (fun _ => rfl) (fun _ => rfl)) fl52 rfl (fun _ => rfl) (fun _ => rfl)) u185 (by omega))
                          refine r_iinc kx_282_135 rfl km_282_6 (by decide) ⟨by omega, by omega⟩ rfl ?_
                          refine s_goto (t := 121) kx_282_138 (by decide) ?_
                          exact cP.wk (lS1 rfl (lS1 rfl (lS1 rfl (lS1 rfl (lS1 rfl (lS1 rfl lS0)))))) (ih60 (x6_51 + 1) M185 hI185 hFm185 hFl104185 hFl121185 (by omega) (by omega) (by omega) (ZR.nx i58 (by omega) u185 rfl) (by omega))
                    exact cP.wk (lS1 rfl (lS1 rfl (lS1 rfl (lS1 rfl (lS1 rfl (lS1 rfl lS0)))))) (key53 _ 0 M38 hI38 hFm38 fl38 Fr.refl (by omega) (by omega) (by omega) (fun t a b => absurd b (by omega)) (Nat.lt_succ_self _))
              exact cP.wk (lS1 rfl (lS1 rfl (lS1 rfl (lS1 rfl (lS1 rfl lS0))))) (key39 _ 0 M34 hI34 hFm34 Fr.refl (by omega) (by omega) (by omega) (RWY.st (by have h9 := i30; rw [show x5_23 = pPr (rAs s R) R.toNat by omega] at h9; exact h9) u34 rfl) (Nat.lt_succ_self _))
            · refine s_aload_n kx_282_80 rfl ?_
              refine r_getR (k := 63) (f := 75) (k2 := 110) kx_282_81 kp_282_240 (tk_63 hT) kf_12_75 (by decide) (rq_63_75 hI24) ?_
              refine s_iload kx_282_84 rfl ?_
              refine s_iconst (v := 0) kx_282_86 (by decide) ?_
              refine r_ast (k := 110) kx_282_87 (tk_110 hT) ⟨by omega, by omega⟩ hI24 ru_110 (fun M188 hI188 u188 => ?_)
              have hFm188 := hFm24.up u188 rfl
              have hFl74188 := fl24.up u188 rfl
              have hc189 := (RR.up (RR.fr (RR.fr hR fl4 rfl) fl24 rfl) u188 (by omega))
              have hc190 := (RWS.up (RWS.fr (RWS.fr hQ fl4 rfl (fun _ => rfl) (fun _ => rfl)) fl24 rfl (fun _ => rfl) (fun _ => rfl)) u188 (by omega))
              refine r_iinc kx_282_88 rfl km_282_5 (by decide) ⟨by omega, by omega⟩ rfl ?_
              refine s_goto (t := 74) kx_282_91 (by decide) ?_
              exact cP.wk (lS1 rfl (lS1 rfl (lS1 rfl (lS1 rfl (lS1 rfl lS0))))) (ih32 (x5_23 + 1) M188 hI188 hFm188 hFl74188 (by omega) (by omega) (by omega) (ZR.nx i30 (by omega) u188 rfl) (by omega))
        exact cP.wk (lS1 rfl (lS1 rfl (lS1 rfl (lS1 rfl (lS1 rfl lS0))))) (key25 _ 0 M4 hI4 hFm4 Fr.refl (by omega) (by omega) (by omega) (fun t a b => absurd b (by omega)) (Nat.lt_succ_self _))
      · refine s_iload kx_282_17 rfl ?_
        refine s_aload_n kx_282_19 rfl ?_
        refine r_getR (k := 63) (f := 74) (k2 := 109) kx_282_20 kp_282_237 (tk_63 hT) kf_12_74 (by decide) (rq_63_74 hI4) ?_
        refine s_iload kx_282_23 rfl ?_
        refine r_ald (k := 109) kx_282_25 (tk_109 hT) ⟨by omega, by omega⟩ (rg_109 hI4) (fun v191 v191e v191a v191b => ?_)
        have v191w : s (2 * x5_3 + 1).toNat = v191 := ((RWS.fr hQ fl4 rfl (fun _ => rfl) (fun _ => rfl)).2 x5_3 (by omega) (by omega)).2.symm.trans v191e
        refine r_add kx_282_26 ⟨by omega, by omega⟩ ?_
        refine s_istore kx_282_27 km_282_4 rfl ?_
        refine s_iload kx_282_29 rfl ?_
        refine s_aload_n kx_282_31 rfl ?_
        refine r_getR (k := 63) (f := 19) (k2 := 69) kx_282_32 kp_282_69 (tk_63 hT) kf_12_19 (by decide) (rq_63_19 hI4) ?_
        refine s_aload_n kx_282_35 rfl ?_
        refine r_getI (k := 63) (f := 14) kx_282_36 kp_282_54 (tk_63 hT) kf_12_14 (fun _ => rfl) (rg_63_14 hI4) (fun v192 v192e v192a v192b => ?_)
        have v192z : M 63 14 = v192 := ((fl4 63 14 rfl)).symm.trans v192e
        refine r_ald (k := 69) kx_282_39 (tk_69 hT) ⟨by omega, by omega⟩ (rg_69 hI4) (fun v193 v193e v193a v193b => ?_)
        have v193d : D 0 1 = v193 := by have h9 := ((RR.fr hR fl4 rfl)).1.2.1; rw [v192e] at h9; exact h9.symm.trans v193e
        refine s_icmp_le (t := 45) kx_282_40 (by decide) (fun hc194 => ?_) (fun hc194 => ?_)
        · refine s_aload_n kx_282_45 rfl ?_
          refine r_getR (k := 63) (f := 77) (k2 := 112) kx_282_46 kp_282_246 (tk_63 hT) kf_12_77 (by decide) (rq_63_77 hI4) ?_
          refine s_iload kx_282_49 rfl ?_
          refine s_iload_n kx_282_51 rfl ?_
          refine r_ast (k := 112) kx_282_52 (tk_112 hT) ⟨by omega, by omega⟩ hI4 ru_112 (fun M195 hI195 u195 => ?_)
          have hFm195 := hFm4.up u195 rfl
          have hFl8195 := fl4.up u195 rfl
          have hc196 := (RR.up (RR.fr hR fl4 rfl) u195 (by omega))
          have hc197 := (RWS.up (RWS.fr hQ fl4 rfl (fun _ => rfl) (fun _ => rfl)) u195 (by omega))
          refine s_iload_n kx_282_53 rfl ?_
          refine s_iconst (v := 1) kx_282_54 (by decide) ?_
          refine s_aload_n kx_282_55 rfl ?_
          refine r_getR (k := 63) (f := 74) (k2 := 109) kx_282_56 kp_282_237 (tk_63 hT) kf_12_74 (by decide) (rq_63_74 hI195) ?_
          refine s_iload kx_282_59 rfl ?_
          refine r_aldK (k := 109) kx_282_61 (tk_109 hT) ⟨by omega, by omega⟩ ((u195.2 109 _ (by omega)).trans v191e) ?_
          refine r_add kx_282_62 ⟨by omega, by omega⟩ ?_
          have hm8 := lay_mul (S := x3_1) (a := x4_2) (m := v191) (by omega) (by omega) (by omega) (by omega)
          have hm9 := pow8 (n := x4_2 + v191) (by omega)
          have hm7 := i16
          refine r_mul kx_282_63 ⟨by omega, by omega⟩ ?_
          refine s_istore_n kx_282_64 km_282_3 rfl ?_
          refine r_iinc kx_282_65 rfl km_282_5 (by decide) ⟨by omega, by omega⟩ rfl ?_
          refine s_goto (t := 8) kx_282_68 (by decide) ?_
          exact cP.wk (lS1 rfl (lS1 rfl (lS1 rfl (lS1 rfl (lS1 rfl (lS1 rfl lS0)))))) (ih20 (x3_1 * (1 + v191)) (x4_2 + v191) (x5_3 + 1) M195 hI195 hFm195 hFl8195 (by omega) (by omega) (by omega) (by omega) (by omega) (by omega) (by omega) (by omega) (by omega) (by rw [rP_S (by omega) (by omega) v191w, ← i16]) (by rw [rS_S (by omega) v191w, ← i17]) (DGS.nx i18 (by omega) i16 u195 rfl) (by omega))
        · refine s_iconst (v := 0) kx_282_43 (by decide) ?_
          exact s_iret kx_282_44 (Or.inl kq_282) ⟨_, _, rfl, rfl, hI4, hFm4, (by rw [rtot0 (k := x5_3 + 1) hds (by omega) (by rw [rS_S (by omega) v191w, ← i17]; omega), wr_0])⟩
  have hz2 : (2 : Int) ^ (0 : Int).toNat = 1 := rfl
  exact cP.wk (lS1 rfl (lS1 rfl (lS1 rfl (lS1 rfl (lS1 rfl (lS1 rfl lS0)))))) (key5 _ 1 0 0 M hI hFm Fr.refl (by omega) (by omega) (by omega) (by omega) (by omega) (by omega) (by omega) (by omega) (by omega) rfl rfl (fun t a b => absurd b (by omega)) (Nat.lt_succ_self _))
