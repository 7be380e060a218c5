def gR_270_l2 : List (Nat × Nat) := [(105, 99999)]
def gR_270_l34 : List (Nat × Nat) := [(105, 99999)]
def gR_270_l49 : List (Nat × Nat) := [(105, 99999)]
def gR_270_l65 : List (Nat × Nat) := [(105, 99999)]
def gR_270_m : List (Nat × Nat) := [(105, 99999)]
theorem g_270 {xs : Nat → Int} {Ln d : Nat} {T : List cK} {M : cM} (hT : TT T) (hI : Rng M) {to : Int} {D S : cM} (hR : RR D S M) {c who : Int} (hX : pSq M (D 0 0) (D 0 0) 0 (fun a b => pLx D S c who a b (D 0 1).toNat)) (p0 : 0 ≤ to ∧ to ≤ 7) (p1 : to < D 0 0) : cC k_P xs Ln (d + 0) 270 [rf 63, (0, to)] (T, M) (qV T M gR_270_m (fun M1 => RR D S M1 ∧ (∀ i : Nat, (i : Int) < D 0 0 → M1 105 i = pRL 100000000 D S c who to i) ∧ pSq M1 (D 0 0) (D 0 0) 0 (fun a b => pLx D S c who a b (D 0 1).toNat))) := by
  show cP k_P xs Ln (d + 0) 270 0 [(0, rf 63), (1, (0, to))] [] (T, M) _
  have hFm : Fr gR_270_m M M := Fr.refl
  have hD := hR.2.1
  have hDr := hD.rg
  have hSW := hR.2.2.2.2.1
  refine s_iconst (v := 0) kx_270_0 (by decide) ?_
  refine s_istore_n kx_270_1 km_270_2 rfl ?_
  have key3 : ∀ n4 : Nat, ∀ (x2_1 : Int), ∀ M2 : cM, Rng M2 → Fr gR_270_m M M2 → Fr gR_270_l2 M M2 → (0 ≤ x2_1) → (x2_1 ≤ 8) → (∀ i : Nat, (i : Int) < x2_1 → M2 105 i = if i = to.toNat then 0 else 100000000) → (RR D S M2) → (pSq M2 (D 0 0) (D 0 0) 0 (fun a b => pLx D S c who a b (D 0 1).toNat)) → (2147483647 - x2_1).toNat < n4 → cP k_P xs Ln (d + 0) 270 2 [(0, rf 63), (1, (0, to)), (2, (0, x2_1))] [] (T, M2) (qV T M gR_270_m (fun M1 => RR D S M1 ∧ (∀ i : Nat, (i : Int) < D 0 0 → M1 105 i = pRL 100000000 D S c who to i) ∧ pSq M1 (D 0 0) (D 0 0) 0 (fun a b => pLx D S c who a b (D 0 1).toNat))) := by
    intro n4
    induction n4 with
    | zero => intro x2_1 M2 hI2 hFm2 fl2 i5 i6 i7 i8 i9 hm10; exact absurd hm10 (Nat.not_lt_zero _)
    | succ n4 ih11 =>
      intro x2_1 M2 hI2 hFm2 fl2 i5 i6 i7 i8 i9 hm10
      refine s_iload_n kx_270_2 rfl ?_
      refine s_bipush (v := 8) kx_270_3 (by decide) ?_
      refine s_icmp_ge (t := 32) kx_270_5 (by decide) (fun hc12 => ?_) (fun hc12 => ?_)
      · refine s_iconst (v := 0) kx_270_32 (by decide) ?_
        refine s_istore_n kx_270_33 km_270_2 rfl ?_
        have key15 : ∀ n16 : Nat, ∀ (x2_13 : Int), ∀ M14 : cM, Rng M14 → Fr gR_270_m M M14 → Fr gR_270_l34 M2 M14 → (0 ≤ x2_13) → (x2_13 ≤ 8) → (x2_13 ≤ D 0 0) → (RR D S M14) → (pSq M14 (D 0 0) (D 0 0) 0 (fun a b => pLx D S c who a b (D 0 1).toNat)) → (pLq M14 105 (pIt 100000000 (pPq D S c who) to.toNat (D 0 0).toNat (x2_13).toNat)) → (0 ≤ D 0 0) → (2147483647 - x2_13).toNat < n16 → cP k_P xs Ln (d + 0) 270 34 [(0, rf 63), (2, (0, x2_13))] [] (T, M14) (qV T M gR_270_m (fun M1 => RR D S M1 ∧ (∀ i : Nat, (i : Int) < D 0 0 → M1 105 i = pRL 100000000 D S c who to i) ∧ pSq M1 (D 0 0) (D 0 0) 0 (fun a b => pLx D S c who a b (D 0 1).toNat))) := by
          intro n16
          induction n16 with
          | zero => intro x2_13 M14 hI14 hFm14 fl14 i17 i18 i19 i20 i21 i22 i23 hm24; exact absurd hm24 (Nat.not_lt_zero _)
          | succ n16 ih25 =>
            intro x2_13 M14 hI14 hFm14 fl14 i17 i18 i19 i20 i21 i22 i23 hm24
            refine s_iload_n kx_270_34 rfl ?_
            refine s_aload_n kx_270_35 rfl ?_
            refine r_getR (k := 63) (f := 15) (k2 := 65) kx_270_36 kp_270_57 (tk_63 hT) kf_12_15 (by decide) (rq_63_15 hI14) ?_
            refine s_aload_n kx_270_39 rfl ?_
            refine r_getI (k := 63) (f := 14) kx_270_40 kp_270_54 (tk_63 hT) kf_12_14 (fun _ => rfl) (rg_63_14 hI14) (fun v26 v26e v26a v26b => ?_)
            have v26z : M 63 14 = v26 := (((fl14 63 14 rfl).trans (fl2 63 14 rfl))).symm.trans v26e
            refine r_ald (k := 65) kx_270_43 (tk_65 hT) ⟨by omega, by omega⟩ (rg_65 hI14) (fun v27 v27e v27a v27b => ?_)
            have v27d : D 0 0 = v27 := by have h9 := (i20).1.1; rw [v26e] at h9; exact h9.symm.trans v27e
            refine s_icmp_ge (t := 147) kx_270_44 (by decide) (fun hc28 => ?_) (fun hc28 => ?_)
            · exact s_vret kx_270_147 kq_270 ⟨_, rfl, rfl, hI14, hFm14, ⟨i20, fun i hi => by have h9 := i22 i (by omega); rw [show (x2_13).toNat = (D 0 0).toNat by omega, pIt_last (by decide) (by omega) (by omega) i (by omega)] at h9; exact h9, i21⟩⟩
            · refine s_iconst (v := 0) kx_270_47 (by decide) ?_
              refine s_istore_n kx_270_48 km_270_3 rfl ?_
              have key31 : ∀ n32 : Nat, ∀ (x3_29 : Int), ∀ M30 : cM, Rng M30 → Fr gR_270_m M M30 → Fr gR_270_l34 M2 M30 → Fr gR_270_l49 M14 M30 → (0 ≤ x3_29) → (x3_29 ≤ 8) → (x3_29 ≤ D 0 0) → (RR D S M30) → (pSq M30 (D 0 0) (D 0 0) 0 (fun a b => pLx D S c who a b (D 0 1).toNat)) → (pLq M30 105 (pRd (pPq D S c who) (pIt 100000000 (pPq D S c who) to.toNat (D 0 0).toNat (x2_13).toNat) (D 0 0).toNat (x3_29).toNat)) → (0 ≤ D 0 0) → (2147483647 - x3_29).toNat < n32 → cP k_P xs Ln (d + 0) 270 49 [(0, rf 63), (2, (0, x2_13)), (3, (0, x3_29))] [] (T, M30) (qV T M gR_270_m (fun M1 => RR D S M1 ∧ (∀ i : Nat, (i : Int) < D 0 0 → M1 105 i = pRL 100000000 D S c who to i) ∧ pSq M1 (D 0 0) (D 0 0) 0 (fun a b => pLx D S c who a b (D 0 1).toNat))) := by
                intro n32
                induction n32 with
                | zero => intro x3_29 M30 hI30 hFm30 hFl3430 fl30 i33 i34 i35 i36 i37 i38 i39 hm40; exact absurd hm40 (Nat.not_lt_zero _)
                | succ n32 ih41 =>
                  intro x3_29 M30 hI30 hFm30 hFl3430 fl30 i33 i34 i35 i36 i37 i38 i39 hm40
                  refine s_iload_n kx_270_49 rfl ?_
                  refine s_aload_n kx_270_50 rfl ?_
                  refine r_getR (k := 63) (f := 15) (k2 := 65) kx_270_51 kp_270_57 (tk_63 hT) kf_12_15 (by decide) (rq_63_15 hI30) ?_
                  refine s_aload_n kx_270_54 rfl ?_
                  refine r_getK (k := 63) (f := 14) kx_270_55 kp_270_54 (tk_63 hT) kf_12_14 (fun _ => rfl) ((fl30 63 14 rfl).trans v26e) ?_
                  refine r_aldK (k := 65) kx_270_58 (tk_65 hT) ⟨by omega, by omega⟩ ((fl30 65 _ rfl).trans v27e) ?_
                  refine s_icmp_ge (t := 141) kx_270_59 (by decide) (fun hc42 => ?_) (fun hc42 => ?_)
                  · refine r_iinc kx_270_141 rfl km_270_2 (by decide) ⟨by omega, by omega⟩ rfl ?_
                    refine s_goto (t := 34) kx_270_144 (by decide) ?_
                    exact cP.wk (lS1 rfl (lS1 rfl lS0)) (ih25 (x2_13 + 1) M30 hI30 hFm30 hFl3430 (by omega) (by omega) (by omega) i36 i37 (pLq.rnd0 i38 (by omega) (by omega)) (by omega) (by omega))
                  · refine s_iconst (v := 0) kx_270_62 (by decide) ?_
                    refine s_istore kx_270_63 km_270_4 rfl ?_
                    have key45 : ∀ n46 : Nat, ∀ (x4_43 : Int), ∀ M44 : cM, Rng M44 → Fr gR_270_m M M44 → Fr gR_270_l34 M2 M44 → Fr gR_270_l49 M14 M44 → Fr gR_270_l65 M30 M44 → (0 ≤ x4_43) → (x4_43 ≤ 8) → (x4_43 ≤ D 0 0) → (RR D S M44) → (pSq M44 (D 0 0) (D 0 0) 0 (fun a b => pLx D S c who a b (D 0 1).toNat)) → (pLq M44 105 (pRw (pPq D S c who) (pRd (pPq D S c who) (pIt 100000000 (pPq D S c who) to.toNat (D 0 0).toNat (x2_13).toNat) (D 0 0).toNat (x3_29).toNat) (x3_29).toNat (x4_43).toNat)) → (0 ≤ D 0 0) → (2147483647 - x4_43).toNat < n46 → cP k_P xs Ln (d + 0) 270 65 [(0, rf 63), (2, (0, x2_13)), (3, (0, x3_29)), (4, (0, x4_43))] [] (T, M44) (qV T M gR_270_m (fun M1 => RR D S M1 ∧ (∀ i : Nat, (i : Int) < D 0 0 → M1 105 i = pRL 100000000 D S c who to i) ∧ pSq M1 (D 0 0) (D 0 0) 0 (fun a b => pLx D S c who a b (D 0 1).toNat))) := by
                      intro n46
                      induction n46 with
                      | zero => intro x4_43 M44 hI44 hFm44 hFl3444 hFl4944 fl44 i47 i48 i49 i50 i51 i52 i53 hm54; exact absurd hm54 (Nat.not_lt_zero _)
                      | succ n46 ih55 =>
                        intro x4_43 M44 hI44 hFm44 hFl3444 hFl4944 fl44 i47 i48 i49 i50 i51 i52 i53 hm54
                        refine s_iload kx_270_65 rfl ?_
                        refine s_aload_n kx_270_67 rfl ?_
                        refine r_getR (k := 63) (f := 15) (k2 := 65) kx_270_68 kp_270_57 (tk_63 hT) kf_12_15 (by decide) (rq_63_15 hI44) ?_
                        refine s_aload_n kx_270_71 rfl ?_
                        refine r_getK (k := 63) (f := 14) kx_270_72 kp_270_54 (tk_63 hT) kf_12_14 (fun _ => rfl) ((fl44 63 14 rfl).trans ((fl30 63 14 rfl).trans v26e)) ?_
                        refine r_aldK (k := 65) kx_270_75 (tk_65 hT) ⟨by omega, by omega⟩ ((fl44 65 _ rfl).trans ((fl30 65 _ rfl).trans v27e)) ?_
                        refine s_icmp_ge (t := 135) kx_270_76 (by decide) (fun hc56 => ?_) (fun hc56 => ?_)
                        · refine r_iinc kx_270_135 rfl km_270_3 (by decide) ⟨by omega, by omega⟩ rfl ?_
                          refine s_goto (t := 49) kx_270_138 (by decide) ?_
                          exact cP.wk (lS1 rfl (lS1 rfl (lS1 rfl lS0))) (ih41 (x3_29 + 1) M44 hI44 hFm44 hFl3444 hFl4944 (by omega) (by omega) (by omega) i50 i51 (pLq.row i52 (by omega) (by omega)) (by omega) (by omega))
                        · refine s_aload_n kx_270_79 rfl ?_
                          refine r_getR (k := 63) (f := 65) (k2 := 103) kx_270_80 kp_270_210 (tk_63 hT) kf_12_65 (by decide) (rq_63_65 hI44) ?_
                          refine s_bipush (v := 8) kx_270_83 (by decide) ?_
                          refine s_iload_n kx_270_85 rfl ?_
                          refine r_mul kx_270_86 ⟨by omega, by omega⟩ ?_
                          refine s_iload kx_270_87 rfl ?_
                          refine r_add kx_270_89 ⟨by omega, by omega⟩ ?_
                          refine r_ald (k := 103) kx_270_90 (tk_103 hT) ⟨by omega, by omega⟩ (rg_103 hI44) (fun v57 v57e v57a v57b => ?_)
                          obtain ⟨v57pv, v57p⟩ : ∃ pv, pPq D S c who (x3_29).toNat (x4_43).toNat = pv := ⟨_, rfl⟩
                          have v57q := (pSq.at hD i51 ⟨by omega, by omega⟩ ⟨by omega, by omega⟩ ((congrArg (M44 103) (by omega)).trans v57e) v57p).1
                          refine s_aload_n kx_270_91 rfl ?_
                          refine r_getR (k := 63) (f := 67) (k2 := 105) kx_270_92 kp_270_216 (tk_63 hT) kf_12_67 (by decide) (rq_63_67 hI44) ?_
                          refine s_iload kx_270_95 rfl ?_
                          refine r_ald (k := 105) kx_270_97 (tk_105 hT) ⟨by omega, by omega⟩ (rg_105 hI44) (fun v58 v58e v58a v58b => ?_)
                          refine r_add kx_270_98 ⟨by omega, by omega⟩ ?_
                          refine s_istore kx_270_99 km_270_5 rfl ?_
                          refine s_aload_n kx_270_101 rfl ?_
                          refine r_getR (k := 63) (f := 67) (k2 := 105) kx_270_102 kp_270_216 (tk_63 hT) kf_12_67 (by decide) (rq_63_67 hI44) ?_
                          refine s_iload_n kx_270_105 rfl ?_
                          refine s_iload kx_270_106 rfl ?_
                          refine s_aload_n kx_270_108 rfl ?_
                          refine r_getR (k := 63) (f := 67) (k2 := 105) kx_270_109 kp_270_216 (tk_63 hT) kf_12_67 (by decide) (rq_63_67 hI44) ?_
                          refine s_iload_n kx_270_112 rfl ?_
                          refine r_ald (k := 105) kx_270_113 (tk_105 hT) ⟨by omega, by omega⟩ (rg_105 hI44) (fun v59 v59e v59a v59b => ?_)
                          refine s_icmp_ge (t := 122) kx_270_114 (by decide) (fun hc60 => ?_) (fun hc60 => ?_)
                          · refine s_aload_n kx_270_122 rfl ?_
                            refine r_getR (k := 63) (f := 67) (k2 := 105) kx_270_123 kp_270_216 (tk_63 hT) kf_12_67 (by decide) (rq_63_67 hI44) ?_
                            refine s_iload_n kx_270_126 rfl ?_
                            refine r_aldK (k := 105) kx_270_127 (tk_105 hT) ⟨by omega, by omega⟩ v59e ?_
                            refine r_ast (k := 105) kx_270_128 (tk_105 hT) ⟨by omega, by omega⟩ hI44 (ru_105 (by omega) (by omega)) (fun M61 hI61 u61 => ?_)
                            have hFm61 := hFm44.up u61 rfl
                            have hFl3461 := hFl3444.up u61 rfl
                            have hFl4961 := hFl4944.up u61 rfl
                            have hFl6561 := fl44.up u61 rfl
                            have hc62 := (RR.up i50 u61 (by omega))
                            refine r_iinc kx_270_129 rfl km_270_4 (by decide) ⟨by omega, by omega⟩ rfl ?_
                            refine s_goto (t := 65) kx_270_132 (by decide) ?_
                            exact cP.wk (lS1 rfl (lS1 rfl (lS1 rfl (lS1 rfl lS0)))) (ih55 (x4_43 + 1) M61 hI61 hFm61 hFl3461 hFl4961 hFl6561 (by omega) (by omega) (by omega) hc62 (pSq.of i51 (fun f => u61.2 103 f (by omega)) (fun f => u61.2 104 f (by omega))) (pLq.set i52 u61 (by omega) ⟨by omega, by omega⟩ ⟨by omega, by omega⟩ v57p v59e v58e (by omega)) (by omega) (by omega))
                          · refine s_iload kx_270_117 rfl ?_
                            refine s_goto (t := 128) kx_270_119 (by decide) ?_
                            refine r_ast (k := 105) kx_270_128 (tk_105 hT) ⟨by omega, by omega⟩ hI44 (ru_105 (by omega) (by omega)) (fun M63 hI63 u63 => ?_)
                            have hFm63 := hFm44.up u63 rfl
                            have hFl3463 := hFl3444.up u63 rfl
                            have hFl4963 := hFl4944.up u63 rfl
                            have hFl6563 := fl44.up u63 rfl
                            have hc64 := (RR.up i50 u63 (by omega))
                            refine r_iinc kx_270_129 rfl km_270_4 (by decide) ⟨by omega, by omega⟩ rfl ?_
                            refine s_goto (t := 65) kx_270_132 (by decide) ?_
                            exact cP.wk (lS1 rfl (lS1 rfl (lS1 rfl (lS1 rfl lS0)))) (ih55 (x4_43 + 1) M63 hI63 hFm63 hFl3463 hFl4963 hFl6563 (by omega) (by omega) (by omega) hc64 (pSq.of i51 (fun f => u63.2 103 f (by omega)) (fun f => u63.2 104 f (by omega))) (pLq.set i52 u63 (by omega) ⟨by omega, by omega⟩ ⟨by omega, by omega⟩ v57p v59e v58e (by omega)) (by omega) (by omega))
                    exact cP.wk (lS1 rfl (lS1 rfl (lS1 rfl (lS1 rfl lS0)))) (key45 _ 0 M30 hI30 hFm30 hFl3430 fl30 Fr.refl (by omega) (by omega) (by omega) i36 i37 i38 (by omega) (Nat.lt_succ_self _))
              exact cP.wk (lS1 rfl (lS1 rfl (lS1 rfl lS0))) (key31 _ 0 M14 hI14 hFm14 fl14 Fr.refl (by omega) (by omega) (by omega) i20 i21 i22 (by omega) (Nat.lt_succ_self _))
        exact cP.wk (lS1 rfl (lS1 rfl lS0)) (key15 _ 0 M2 hI2 hFm2 Fr.refl (by omega) (by omega) (by omega) i8 i9 (pLq.z0 i7 (by omega)) (by omega) (Nat.lt_succ_self _))
      · refine s_aload_n kx_270_8 rfl ?_
        refine r_getR (k := 63) (f := 67) (k2 := 105) kx_270_9 kp_270_216 (tk_63 hT) kf_12_67 (by decide) (rq_63_67 hI2) ?_
        refine s_iload_n kx_270_12 rfl ?_
        refine s_iload_n kx_270_13 rfl ?_
        refine s_iload_n kx_270_14 rfl ?_
        refine s_icmp_ne (t := 22) kx_270_15 (by decide) (fun hc65 => ?_) (fun hc65 => ?_)
        · refine s_ldc_w kx_270_22 kp_270_571 ?_
          refine r_ast (k := 105) kx_270_25 (tk_105 hT) ⟨by omega, by omega⟩ hI2 (ru_105 (by omega) (by omega)) (fun M66 hI66 u66 => ?_)
          have hFm66 := hFm2.up u66 rfl
          have hFl266 := fl2.up u66 rfl
          have hc67 := (RR.up i8 u66 (by omega))
          refine r_iinc kx_270_26 rfl km_270_2 (by decide) ⟨by omega, by omega⟩ rfl ?_
          refine s_goto (t := 2) kx_270_29 (by decide) ?_
          exact cP.wk (lS1 rfl (lS1 rfl (lS1 rfl lS0))) (ih11 (x2_1 + 1) M66 hI66 hFm66 hFl266 (by omega) (by omega) (fun q hq => (if e : (q : Int) = x2_1 then (congrArg (M66 105) (by omega)).trans (u66.1.trans (if_neg (by omega)).symm) else (u66.2 105 q (by omega)).trans (i7 q (by omega)))) hc67 (pSq.of i9 (fun f => u66.2 103 f (by omega)) (fun f => u66.2 104 f (by omega))) (by omega))
        · refine s_iconst (v := 0) kx_270_18 (by decide) ?_
          refine s_goto (t := 25) kx_270_19 (by decide) ?_
          refine r_ast (k := 105) kx_270_25 (tk_105 hT) ⟨by omega, by omega⟩ hI2 (ru_105 (by omega) (by omega)) (fun M68 hI68 u68 => ?_)
          have hFm68 := hFm2.up u68 rfl
          have hFl268 := fl2.up u68 rfl
          have hc69 := (RR.up i8 u68 (by omega))
          refine r_iinc kx_270_26 rfl km_270_2 (by decide) ⟨by omega, by omega⟩ rfl ?_
          refine s_goto (t := 2) kx_270_29 (by decide) ?_
          exact cP.wk (lS1 rfl (lS1 rfl (lS1 rfl lS0))) (ih11 (x2_1 + 1) M68 hI68 hFm68 hFl268 (by omega) (by omega) (fun q hq => (if e : (q : Int) = x2_1 then (congrArg (M68 105) (by omega)).trans (u68.1.trans (if_pos (by omega)).symm) else (u68.2 105 q (by omega)).trans (i7 q (by omega)))) hc69 (pSq.of i9 (fun f => u68.2 103 f (by omega)) (fun f => u68.2 104 f (by omega))) (by omega))
  exact cP.wk (lS1 rfl (lS1 rfl (lS1 rfl lS0))) (key3 _ 0 M hI hFm Fr.refl (by omega) (by omega) (fun i hi => absurd hi (by omega)) hR hX (Nat.lt_succ_self _))
