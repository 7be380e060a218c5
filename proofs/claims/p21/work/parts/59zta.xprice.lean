def gC_35_l27 : List (Nat × Nat) := [(20, 99999), (23, 99999), (37, 99999), (40, 99999), (43, 99999), (47, 99999), (48, 99999)]
def gC_35_l3 : List (Nat × Nat) := [(20, 99999), (23, 99999), (37, 99999), (40, 99999), (43, 99999), (47, 99999), (48, 99999)]
def gC_35_m : List (Nat × Nat) := [(20, 99999), (23, 99999), (37, 99999), (40, 99999), (43, 99999), (47, 99999), (48, 99999)]
theorem g_35 {xs : Nat → Int} {Ln d : Nat} {T : List cK} {M : cM} (hT : TT T) (hI : Rng M) {t : Nat} (ht : t = 8 ∨ t = 25) (h70 : M 7 0 = ((t : Nat) : Int)) {person chair : Int} {D S : cM} (hC : CR D S t M) (hG : Gm T M) {X : Nat → Nat → Int × Int} (hX : pTb M (D 0 0) X) (p0 : 0 ≤ person ∧ person ≤ 7) (p1 : 0 ≤ chair ∧ chair ≤ 7) (p2 : person < D 0 1) (p3 : chair < D 0 1) : cC k_P xs Ln (d + 5) 35 [rf 46, rf 7, (0, person), (0, chair)] (T, M) (qV T M gC_35_m (fun M1 => CR D S t M1 ∧ pTb M1 (D 0 0) (fun a b => pLp D S chair a b person (X a b)))) := by
  show cP k_P xs Ln (d + 5) 35 0 [(0, rf 46), (1, rf 7), (2, (0, person)), (3, (0, chair))] [] (T, M) _
  have hFm : Fr gC_35_m M M := Fr.refl
  have hD := hC.2.1
  have hDr := hD.rg
  have hSW := hC.2.2.2.2.1
  refine s_iconst (v := 0) kx_35_0 (by decide) ?_
  refine s_istore kx_35_1 km_35_4 rfl ?_
  have key3 : ∀ n4 : Nat, ∀ (x4_1 : Int), ∀ M2 : cM, Rng M2 → Fr gC_35_m M M2 → Fr gC_35_l3 M M2 → (0 ≤ x4_1) → (x4_1 ≤ 8) → (x4_1 ≤ D 0 0) → (CR D S t M2) → (pTb M2 (D 0 0) (pTc D S chair person x4_1 0 X)) → (2147483647 - x4_1).toNat < n4 → cP k_P xs Ln (d + 5) 35 3 [(0, rf 46), (1, rf 7), (2, (0, person)), (3, (0, chair)), (4, (0, x4_1))] [] (T, M2) (qV T M gC_35_m (fun M1 => CR D S t M1 ∧ pTb M1 (D 0 0) (fun a b => pLp D S chair a b person (X a b)))) := by
    intro n4
    induction n4 with
    | zero => intro x4_1 M2 hI2 hFm2 fl2 i5 i6 i7 i8 i9 hm10; exact absurd hm10 (Nat.not_lt_zero _)
    | succ n4 ih11 =>
      intro x4_1 M2 hI2 hFm2 fl2 i5 i6 i7 i8 i9 hm10
      refine s_iload kx_35_3 rfl ?_
      refine s_aload_n kx_35_5 rfl ?_
      refine r_getR (k := 7) (f := 0) (k2 := t) kx_35_6 kp_35_44 (tk_7 hT) kf_5_0 (by decide) ((fl2 7 0 rfl).trans h70) ?_
      refine r_getI (k := t) (f := 0) kx_35_9 kp_35_55 (tkt_0 hT ht) kf_9_0 (fun _ => rfl) (rgt_0_0 hI2 ht) (fun v12 v12e v12a v12b => ?_)
      have v12d : D 0 0 = v12 := ((i8).1 0 0 (by decide)).symm.trans v12e
      have v12z : M t 0 = v12 := ((fl2 t 0 (by rcases ht with rfl | rfl <;> rfl))).symm.trans v12e
      refine s_icmp_ge (t := 136) kx_35_12 (by decide) (fun hc13 => ?_) (fun hc13 => ?_)
      · exact s_vret kx_35_136 kq_35 ⟨_, rfl, rfl, hI2, hFm2, ⟨i8, pTb.all i9 (by omega)⟩⟩
      · refine s_aload_n kx_35_15 rfl ?_
        refine s_iload kx_35_16 rfl ?_
        refine s_iload_n kx_35_18 rfl ?_
        refine s_callV2 (k := 7) (s1 := 3) (s2 := 0) (as := [(0, chair), (0, x4_1)]) (rest := []) kx_35_19 kp_35_58 (Or.inl rfl) rfl (tk_7 hT) ki_57 kcl_57 rfl rfl (by decide) (g_57 (d := d + 2) (room := x4_1) (chair := chair) hT hI2 ht ((fl2 7 0 rfl).trans h70) i8) (kF (fun v14 v14p => ?_))
        have hc15 := i8
        refine s_istore kx_35_22 km_35_5 rfl ?_
        refine s_iconst (v := 0) kx_35_24 (by decide) ?_
        refine s_istore kx_35_25 km_35_6 rfl ?_
        have key18 : ∀ n19 : Nat, ∀ (x6_16 : Int), ∀ M17 : cM, Rng M17 → Fr gC_35_m M M17 → Fr gC_35_l3 M M17 → Fr gC_35_l27 M2 M17 → (0 ≤ x6_16) → (x6_16 ≤ 8) → (x6_16 ≤ D 0 0) → (CR D S t M17) → (pTb M17 (D 0 0) (pTc D S chair person x4_1 x6_16 X)) → (2147483647 - x6_16).toNat < n19 → cP k_P xs Ln (d + 5) 35 27 [(0, rf 46), (1, rf 7), (2, (0, person)), (3, (0, chair)), (4, (0, x4_1)), (5, (0, v14)), (6, (0, x6_16))] [] (T, M17) (qV T M gC_35_m (fun M1 => CR D S t M1 ∧ pTb M1 (D 0 0) (fun a b => pLp D S chair a b person (X a b)))) := by
          intro n19
          induction n19 with
          | zero => intro x6_16 M17 hI17 hFm17 hFl317 fl17 i20 i21 i22 i23 i24 hm25; exact absurd hm25 (Nat.not_lt_zero _)
          | succ n19 ih26 =>
            intro x6_16 M17 hI17 hFm17 hFl317 fl17 i20 i21 i22 i23 i24 hm25
            refine s_iload kx_35_27 rfl ?_
            refine s_aload_n kx_35_29 rfl ?_
            refine r_getR (k := 7) (f := 0) (k2 := t) kx_35_30 kp_35_44 (tk_7 hT) kf_5_0 (by decide) ((fl17 7 0 rfl).trans ((fl2 7 0 rfl).trans h70)) ?_
            refine r_getK (k := t) (f := 0) kx_35_33 kp_35_55 (tkt_0 hT ht) kf_9_0 (fun _ => rfl) ((fl17 t 0 (by rcases ht with rfl | rfl <;> rfl)).trans v12e) ?_
            refine s_icmp_ge (t := 130) kx_35_36 (by decide) (fun hc27 => ?_) (fun hc27 => ?_)
            · refine r_iinc kx_35_130 rfl km_35_4 (by decide) ⟨by omega, by omega⟩ rfl ?_
              refine s_goto (t := 3) kx_35_133 (by decide) ?_
              have hx28 : pTb M17 (D 0 0) (pTc D S chair person (x4_1 + 1) 0 X) := pTb.row i24 (by omega)
              exact cP.wk (lS1 rfl (lS1 rfl (lS1 rfl (lS1 rfl (lS1 rfl lS0))))) (ih11 (x4_1 + 1) M17 hI17 hFm17 hFl317 (by omega) (by omega) (by omega) i23 hx28 (by omega))
            · refine s_aload_n kx_35_39 rfl ?_
              refine r_getR (k := 7) (f := 0) (k2 := t) kx_35_40 kp_35_44 (tk_7 hT) kf_5_0 (by decide) ((fl17 7 0 rfl).trans ((fl2 7 0 rfl).trans h70)) ?_
              refine s_iload kx_35_43 rfl ?_
              refine s_iload kx_35_45 rfl ?_
              refine s_callV2 (k := t) (s1 := 3) (s2 := 0) (as := [(0, x4_1), (0, x6_16)]) (rest := []) kx_35_47 kp_35_62 (Or.inl rfl) rfl (tkt_0 hT ht) ki_117 kcl_117 rfl rfl (by decide) (g_117 (d := d + 3) (a := x6_16) (b := x4_1) hT hI17 ht ((fl17 7 0 rfl).trans ((fl2 7 0 rfl).trans h70)) i23) (kF (fun v29 v29p => ?_))
              have v29q : v29 = pWy D x6_16 x4_1 := v29p.1
              have hc30 := i23
              refine s_istore kx_35_50 km_35_7 rfl ?_
              refine s_iload kx_35_52 rfl ?_
              refine s_if_eq (t := 124) kx_35_54 (by decide) (fun hc31 => ?_) (fun hc31 => ?_)
              · refine r_iinc kx_35_124 rfl km_35_6 (by decide) ⟨by omega, by omega⟩ rfl ?_
                refine s_goto (t := 27) kx_35_127 (by decide) ?_
                have hx32 : pTb M17 (D 0 0) (pTc D S chair person x4_1 (x6_16 + 1) X) := (pTb.no i24 ⟨by omega, by omega⟩ ⟨by omega, by omega⟩ rfl (by omega))
                exact cP.wk (lS1 rfl (lS1 rfl (lS1 rfl (lS1 rfl (lS1 rfl (lS1 rfl (lS1 rfl lS0))))))) (ih26 (x6_16 + 1) M17 hI17 hFm17 hFl317 fl17 (by omega) (by omega) (by omega) hc30 hx32 (by omega))
              · refine s_iload kx_35_57 rfl ?_
                refine s_if_ne (t := 65) kx_35_59 (by decide) (fun hc33 => ?_) (fun hc33 => ?_)
                · refine s_iload kx_35_65 rfl ?_
                  refine s_bipush (v := 8) kx_35_67 (by decide) ?_
                  refine r_mul kx_35_69 ⟨by omega, by omega⟩ ?_
                  refine s_iload kx_35_70 rfl ?_
                  refine r_add kx_35_72 ⟨by omega, by omega⟩ ?_
                  refine s_istore kx_35_73 km_35_8 rfl ?_
                  refine s_aload_n kx_35_75 rfl ?_
                  refine s_iload_n kx_35_76 rfl ?_
                  refine s_iload_n kx_35_77 rfl ?_
                  refine s_iload kx_35_78 rfl ?_
                  refine s_callV2 (k := 7) (s1 := 4) (s2 := 0) (as := [(0, v29), (0, chair), (0, person)]) (rest := []) kx_35_80 kp_35_66 (Or.inl rfl) rfl (tk_7 hT) ki_62 kcl_62 rfl rfl (by decide) (g_62 (d := d) (person := person) (chair := chair) (wayMinutes := v29) hT hI17 ht ((fl17 7 0 rfl).trans ((fl2 7 0 rfl).trans h70)) hc30 (Gm.fr (Gm.fr hG fl2 rfl) fl17 rfl) (by omega) (by omega) (by omega) (by omega) (by omega)) (kW (fun v34 M35 hI35 fr35 v34p => ?_))
                  have hFm35 := hFm17.call fr35 rfl
                  have hFl335 := hFl317.call fr35 rfl
                  have hFl2735 := fl17.call fr35 rfl
                  have v34q : v34 = pCy D S person chair (pWy D x6_16 x4_1) := by have h9 := v34p.2.2; rw [if_neg (by omega), v29q] at h9; exact h9
                  have hc36 := (pTb.of i24 (fun f => fr35 47 f rfl) (fun f => fr35 48 f rfl))
                  have hc37 := (CR.fr hc30 fr35 ht rfl)
                  refine s_istore kx_35_83 km_35_9 rfl ?_
                  refine s_aload_n kx_35_85 rfl ?_
                  refine r_getR (k := 46) (f := 0) (k2 := 47) kx_35_86 kp_35_9 (tk_46 hT) kf_4_0 (by decide) (rq_46_0 hI35) ?_
                  refine s_iload kx_35_89 rfl ?_
                  refine r_aldU (k := 47) kx_35_91 (tk_47 hT) ⟨by omega, by omega⟩ (fun v38 v38e => ?_)
                  have v38x : M35 47 (8 * x6_16 + x4_1).toNat = v38 := (congrArg (M35 47) (by omega)).trans v38e
                  refine s_if_eq (t := 107) kx_35_92 (by decide) (fun hc39 => ?_) (fun hc39 => ?_)
                  · refine s_aload_n kx_35_107 rfl ?_
                    refine r_getR (k := 46) (f := 0) (k2 := 47) kx_35_108 kp_35_9 (tk_46 hT) kf_4_0 (by decide) (rq_46_0 hI35) ?_
                    refine s_iload kx_35_111 rfl ?_
                    refine s_iload kx_35_113 rfl ?_
                    refine r_ast (k := 47) kx_35_115 (tk_47 hT) ⟨by omega, by omega⟩ hI35 ru_47 (fun M40 hI40 u40 => ?_)
                    have hFm40 := hFm35.up u40 rfl
                    have hFl340 := hFl335.up u40 rfl
                    have hFl2740 := hFl2735.up u40 rfl
                    have hc41 := (CR.up hc37 u40 ht (by omega))
                    refine s_aload_n kx_35_116 rfl ?_
                    refine r_getR (k := 46) (f := 1) (k2 := 48) kx_35_117 kp_35_15 (tk_46 hT) kf_4_1 (by decide) (rq_46_1 hI40) ?_
                    refine s_iload kx_35_120 rfl ?_
                    refine s_iload_n kx_35_122 rfl ?_
                    refine r_ast (k := 48) kx_35_123 (tk_48 hT) ⟨by omega, by omega⟩ hI40 ru_48 (fun M42 hI42 u42 => ?_)
                    have hFm42 := hFm40.up u42 rfl
                    have hFl342 := hFl340.up u42 rfl
                    have hFl2742 := hFl2740.up u42 rfl
                    have hc43 := (CR.up hc41 u42 ht (by omega))
                    refine r_iinc kx_35_124 rfl km_35_6 (by decide) ⟨by omega, by omega⟩ rfl ?_
                    refine s_goto (t := 27) kx_35_127 (by decide) ?_
                    have hx44 : pTb M42 (D 0 0) (pTc D S chair person x4_1 (x6_16 + 1) X) := (pTb.set hc36 ⟨by omega, by omega⟩ ⟨by omega, by omega⟩ (by omega) u40 u42 (by omega) (by omega) v38x (by omega) v34q rfl)
                    exact cP.wk (lS1 rfl (lS1 rfl (lS1 rfl (lS1 rfl (lS1 rfl (lS1 rfl (lS1 rfl lS0))))))) (ih26 (x6_16 + 1) M42 hI42 hFm42 hFl342 hFl2742 (by omega) (by omega) (by omega) hc43 hx44 (by omega))
                  · refine s_iload kx_35_95 rfl ?_
                    refine s_aload_n kx_35_97 rfl ?_
                    refine r_getR (k := 46) (f := 0) (k2 := 47) kx_35_98 kp_35_9 (tk_46 hT) kf_4_0 (by decide) (rq_46_0 hI35) ?_
                    refine s_iload kx_35_101 rfl ?_
                    refine r_aldK (k := 47) kx_35_103 (tk_47 hT) ⟨by omega, by omega⟩ v38e ?_
                    refine s_icmp_ge (t := 124) kx_35_104 (by decide) (fun hc45 => ?_) (fun hc45 => ?_)
                    · refine r_iinc kx_35_124 rfl km_35_6 (by decide) ⟨by omega, by omega⟩ rfl ?_
                      refine s_goto (t := 27) kx_35_127 (by decide) ?_
                      have hx46 : pTb M35 (D 0 0) (pTc D S chair person x4_1 (x6_16 + 1) X) := (pTb.no hc36 ⟨by omega, by omega⟩ ⟨by omega, by omega⟩ v38x (by omega))
                      exact cP.wk (lS1 rfl (lS1 rfl (lS1 rfl (lS1 rfl (lS1 rfl (lS1 rfl (lS1 rfl lS0))))))) (ih26 (x6_16 + 1) M35 hI35 hFm35 hFl335 hFl2735 (by omega) (by omega) (by omega) hc37 hx46 (by omega))
                    · refine s_aload_n kx_35_107 rfl ?_
                      refine r_getR (k := 46) (f := 0) (k2 := 47) kx_35_108 kp_35_9 (tk_46 hT) kf_4_0 (by decide) (rq_46_0 hI35) ?_
                      refine s_iload kx_35_111 rfl ?_
                      refine s_iload kx_35_113 rfl ?_
                      refine r_ast (k := 47) kx_35_115 (tk_47 hT) ⟨by omega, by omega⟩ hI35 ru_47 (fun M47 hI47 u47 => ?_)
                      have hFm47 := hFm35.up u47 rfl
                      have hFl347 := hFl335.up u47 rfl
                      have hFl2747 := hFl2735.up u47 rfl
                      have hc48 := (CR.up hc37 u47 ht (by omega))
                      refine s_aload_n kx_35_116 rfl ?_
                      refine r_getR (k := 46) (f := 1) (k2 := 48) kx_35_117 kp_35_15 (tk_46 hT) kf_4_1 (by decide) (rq_46_1 hI47) ?_
                      refine s_iload kx_35_120 rfl ?_
                      refine s_iload_n kx_35_122 rfl ?_
                      refine r_ast (k := 48) kx_35_123 (tk_48 hT) ⟨by omega, by omega⟩ hI47 ru_48 (fun M49 hI49 u49 => ?_)
                      have hFm49 := hFm47.up u49 rfl
                      have hFl349 := hFl347.up u49 rfl
                      have hFl2749 := hFl2747.up u49 rfl
                      have hc50 := (CR.up hc48 u49 ht (by omega))
                      refine r_iinc kx_35_124 rfl km_35_6 (by decide) ⟨by omega, by omega⟩ rfl ?_
                      refine s_goto (t := 27) kx_35_127 (by decide) ?_
                      have hx51 : pTb M49 (D 0 0) (pTc D S chair person x4_1 (x6_16 + 1) X) := (pTb.set hc36 ⟨by omega, by omega⟩ ⟨by omega, by omega⟩ (by omega) u47 u49 (by omega) (by omega) v38x (by omega) v34q rfl)
                      exact cP.wk (lS1 rfl (lS1 rfl (lS1 rfl (lS1 rfl (lS1 rfl (lS1 rfl (lS1 rfl lS0))))))) (ih26 (x6_16 + 1) M49 hI49 hFm49 hFl349 hFl2749 (by omega) (by omega) (by omega) hc50 hx51 (by omega))
                · refine s_goto (t := 124) kx_35_62 (by decide) ?_
                  refine r_iinc kx_35_124 rfl km_35_6 (by decide) ⟨by omega, by omega⟩ rfl ?_
                  refine s_goto (t := 27) kx_35_127 (by decide) ?_
                  have hx52 : pTb M17 (D 0 0) (pTc D S chair person x4_1 (x6_16 + 1) X) := (pTb.no i24 ⟨by omega, by omega⟩ ⟨by omega, by omega⟩ rfl (by omega))
                  exact cP.wk (lS1 rfl (lS1 rfl (lS1 rfl (lS1 rfl (lS1 rfl (lS1 rfl (lS1 rfl lS0))))))) (ih26 (x6_16 + 1) M17 hI17 hFm17 hFl317 fl17 (by omega) (by omega) (by omega) hc30 hx52 (by omega))
        exact cP.wk (lS1 rfl (lS1 rfl (lS1 rfl (lS1 rfl (lS1 rfl (lS1 rfl (lS1 rfl lS0))))))) (key18 _ 0 M2 hI2 hFm2 fl2 Fr.refl (by omega) (by omega) (by omega) hc15 i9 (Nat.lt_succ_self _))
  exact cP.wk (lS1 rfl (lS1 rfl (lS1 rfl (lS1 rfl (lS1 rfl lS0))))) (key3 _ 0 M hI hFm Fr.refl (by omega) (by omega) (by omega) hC (by rw [pTc_0]; exact hX : pTb M (D 0 0) (pTc D S chair person 0 0 X)) (Nat.lt_succ_self _))
