def gC_86_l10 : List (Nat × Nat) := [(59, 99999), (60, 99999)]
def gC_86_l27 : List (Nat × Nat) := [(59, 99999)]
def gC_86_m : List (Nat × Nat) := [(58, 99999), (59, 99999), (60, 99999)]
theorem g_86 {xs : Nat → Int} {Ln d : Nat} {T : List cK} {M : cM} (hT : TT T) (hI : Rng M) {t : Nat} (ht : t = 8 ∨ t = 25) (h70 : M 7 0 = ((t : Nat) : Int)) {person : Int} {D S : cM} (hC : CR D S t M) {w : Int → Int} (hL : STL w M) (hB : BFD D S w M) (hA : AFT D S w (D 0 1 - 1 - person) M) (hW : WIN D S w person 0 M) (p0 : 0 ≤ person ∧ person ≤ 7) (p1 : person < D 0 1) : cC k_P xs Ln (d + 3) 86 [rf 54, rf 7, (0, person)] (T, M) (qV T M gC_86_m (fun M1 => AFT D S w (D 0 1 - person) M1 ∧ WIN D S w (person - 1) 0 M1)) := by
  show cP k_P xs Ln (d + 3) 86 0 [(0, rf 54), (1, rf 7), (2, (0, person))] [] (T, M) _
  have hFm : Fr gC_86_m M M := Fr.refl
  have hD := hC.2.1
  have hDr := hD.rg
  have hSW := hC.2.2.2.2
  have hS2 := hL.2.2.1
  have hS1 := pPr_pos (rdxC hL.2.2.2).1 8
  refine s_aload_n kx_86_0 rfl ?_
  refine r_getR (k := 54) (f := 4) (k2 := 59) kx_86_1 kp_86_24 (tk_54 hT) kf_6_4 (by decide) (rq_54_4 hI) ?_
  refine s_iconst (v := 0) kx_86_4 (by decide) ?_
  refine s_callS2 (s1 := 2) (s2 := 0) (as := [(0, 0), rf 59]) (rest := []) kx_86_5 kp_86_100 rfl kcl_301 rfl rfl (by decide) (f_fill (d := d + 2) (val := 0) hT hI (k := 59) (n := 256) (tk_59 hT) (by decide) (fun _ => ru_59)) (kV (fun M2 hI2 fr2 v1p => ?_))
  have hFm2 := hFm.call fr2 rfl
  have hc3 := (CR.fr hC fr2 ht rfl)
  have hc4 := (STL.fr hL fr2 rfl (fun _ => rfl) (fun _ => rfl))
  refine s_iconst (v := 0) kx_86_8 (by decide) ?_
  refine s_istore_n kx_86_9 km_86_3 rfl ?_
  have key7 : ∀ n8 : Nat, ∀ (x3_5 : Int), ∀ M6 : cM, Rng M6 → Fr gC_86_m M M6 → Fr gC_86_l10 M2 M6 → (0 ≤ x3_5) → (x3_5 ≤ 8) → (x3_5 ≤ D 0 0) → (FRS D S w person x3_5 0 M6) → (WIN D S w person x3_5 M6) → (2147483647 - x3_5).toNat < n8 → cP k_P xs Ln (d + 3) 86 10 [(0, rf 54), (1, rf 7), (2, (0, person)), (3, (0, x3_5))] [] (T, M6) (qV T M gC_86_m (fun M1 => AFT D S w (D 0 1 - person) M1 ∧ WIN D S w (person - 1) 0 M1)) := by
    intro n8
    induction n8 with
    | zero => intro x3_5 M6 hI6 hFm6 fl6 i9 i10 i11 i12 i13 hm14; exact absurd hm14 (Nat.not_lt_zero _)
    | succ n8 ih15 =>
      intro x3_5 M6 hI6 hFm6 fl6 i9 i10 i11 i12 i13 hm14
      have hq0 : True := trivial
      refine s_iload_n kx_86_10 rfl ?_
      refine s_aload_n kx_86_11 rfl ?_
      refine r_getR (k := 7) (f := 0) (k2 := t) kx_86_12 kp_86_48 (tk_7 hT) kf_5_0 (by decide) ((fl6 7 0 rfl).trans ((fr2 7 0 rfl).trans h70)) ?_
      refine r_getI (k := t) (f := 0) kx_86_15 kp_86_122 (tkt_0 hT ht) kf_9_0 (fun _ => rfl) (rgt_0_0 hI6 ht) (fun v16 v16e v16a v16b => ?_)
      have v16d : D 0 0 = v16 := (((CR.fr hc3 fl6 ht rfl)).1 0 0 (by decide)).symm.trans v16e
      have v16z : M t 0 = v16 := (((fl6 t 0 (by rcases ht with rfl | rfl <;> rfl)).trans (fr2 t 0 (by rcases ht with rfl | rfl <;> rfl)))).symm.trans v16e
      refine s_icmp_ge (t := 121) kx_86_18 (by decide) (fun hc17 => ?_) (fun hc17 => ?_)
      · have hw9 := WIN.ps i13 ⟨by omega, by omega⟩ (by omega)
        refine s_aload_n kx_86_121 rfl ?_
        refine r_getR (k := 54) (f := 4) (k2 := 59) kx_86_122 kp_86_24 (tk_54 hT) kf_6_4 (by decide) (rq_54_4 hI6) ?_
        refine s_iconst (v := 0) kx_86_125 (by decide) ?_
        refine s_aload_n kx_86_126 rfl ?_
        refine r_getR (k := 54) (f := 3) (k2 := 58) kx_86_127 kp_86_21 (tk_54 hT) kf_6_3 (by decide) (rq_54_3 hI6) ?_
        refine s_iconst (v := 0) kx_86_130 (by decide) ?_
        refine s_sipush (v := 256) kx_86_131 (by decide) ?_
        refine r_cpy (ks := 59) (kd := 58) kx_86_134 kp_86_129 (tk_59 hT) (tk_58 hT) ⟨by omega, by omega, by omega, by omega, by omega⟩ (by decide) hI6 (fun _ _ _ => ru_58) (fun M18 hI18 ca19 cb20 => ?_)
        have fr18 : Fr [(58, 99999)] M6 M18 := Fr.cell (fun x y h => cb20 x y (fun g => h g.1))
        have hFm18 := hFm6.call fr18 rfl
        have hc21 := (CR.fr (CR.fr hc3 fl6 ht rfl) fr18 ht rfl)
        have hc22 := (STL.fr (STL.fr hc4 fl6 rfl (fun _ => rfl) (fun _ => rfl)) fr18 rfl (fun _ => rfl) (fun _ => rfl))
        exact s_vret kx_86_137 kq_86 ⟨_, rfl, rfl, hI18, hFm18, ⟨FRS.en i12 (by omega) ⟨by omega, by omega⟩ rfl (fun t t0 t1 => (ca19 t.toNat (Nat.zero_le _) (by have h9 : (256 : Int).toNat = 256 := rfl; have h8 : (0 : Int).toNat = 0 := rfl; omega)).trans (congrArg _ (by have h8 : (0 : Int).toNat = 0 := rfl; omega))), (WIN.fr hw9 fr18 (fun _ => rfl))⟩⟩
      · refine s_iconst (v := 0) kx_86_21 (by decide) ?_
        refine s_istore kx_86_22 km_86_4 rfl ?_
        refine s_iconst (v := 0) kx_86_24 (by decide) ?_
        refine s_istore kx_86_25 km_86_5 rfl ?_
        have key26 : ∀ n27 : Nat, ∀ (x4_23 x5_24 : Int), ∀ M25 : cM, Rng M25 → Fr gC_86_m M M25 → Fr gC_86_l10 M2 M25 → Fr gC_86_l27 M6 M25 → (0 ≤ x5_24) → (x5_24 ≤ 256) → (x5_24 ≤ pPr (cAs w) 8) → (FRS D S w person x3_5 x5_24 M25) → (x4_23 = wr32 (yV8 D S w person x3_5 (x5_24).toNat)) → (2147483647 - x5_24).toNat < n27 → cP k_P xs Ln (d + 3) 86 27 [(0, rf 54), (1, rf 7), (2, (0, person)), (3, (0, x3_5)), (4, (0, x4_23)), (5, (0, x5_24))] [] (T, M25) (qV T M gC_86_m (fun M1 => AFT D S w (D 0 1 - person) M1 ∧ WIN D S w (person - 1) 0 M1)) := by
          intro n27
          induction n27 with
          | zero => intro x4_23 x5_24 M25 hI25 hFm25 hFl1025 fl25 i28 i29 i30 i31 i32 hm33; exact absurd hm33 (Nat.not_lt_zero _)
          | succ n27 ih34 =>
            intro x4_23 x5_24 M25 hI25 hFm25 hFl1025 fl25 i28 i29 i30 i31 i32 hm33
            refine s_iload kx_86_27 rfl ?_
            refine s_aload_n kx_86_29 rfl ?_
            refine r_getU (k := 54) (f := 7) kx_86_30 kp_86_34 (tk_54 hT) kf_6_7 (fun _ => rfl) (fun v35 v35e => ?_)
            have v35S : v35 = pPr (cAs w) 8 := v35e.symm.trans (STL.fr (STL.fr hc4 fl6 rfl (fun _ => rfl) (fun _ => rfl)) fl25 rfl (fun _ => rfl) (fun _ => rfl)).2.1
            have v35z : M 54 7 = v35 := (((fl25 54 7 rfl).trans ((fl6 54 7 rfl).trans (fr2 54 7 rfl)))).symm.trans v35e
            refine s_icmp_ge (t := 102) kx_86_33 (by decide) (fun hc36 => ?_) (fun hc36 => ?_)
            · refine s_aload_n kx_86_102 rfl ?_
              refine r_getR (k := 54) (f := 5) (k2 := 60) kx_86_103 kp_86_27 (tk_54 hT) kf_6_5 (by decide) (rq_54_5 hI25) ?_
              refine s_iload_n kx_86_106 rfl ?_
              refine s_bipush (v := 8) kx_86_107 (by decide) ?_
              refine r_mul kx_86_109 ⟨by omega, by omega⟩ ?_
              refine s_iload_n kx_86_110 rfl ?_
              refine r_add kx_86_111 ⟨by omega, by omega⟩ ?_
              refine s_iload kx_86_112 rfl ?_
              refine r_ast (k := 60) kx_86_114 (tk_60 hT) ⟨by omega, by omega⟩ hI25 ru_60 (fun M37 hI37 u37 => ?_)
              have hFm37 := hFm25.up u37 rfl
              have hFl1037 := hFl1025.up u37 rfl
              have hc38 := (CR.up (CR.fr (CR.fr hc3 fl6 ht rfl) fl25 ht rfl) u37 ht (by omega))
              have hc39 := (STL.up (STL.fr (STL.fr hc4 fl6 rfl (fun _ => rfl) (fun _ => rfl)) fl25 rfl (fun _ => rfl) (fun _ => rfl)) u37 (by decide))
              refine r_iinc kx_86_115 rfl km_86_3 (by decide) ⟨by omega, by omega⟩ rfl ?_
              refine s_goto (t := 10) kx_86_118 (by decide) ?_
              exact cP.wk (lS1 rfl (lS1 rfl (lS1 rfl (lS1 rfl lS0)))) (ih15 (x3_5 + 1) M37 hI37 hFm37 hFl1037 (by omega) (by omega) (by omega) (FRS.up (FRS.rm i31 (by omega) (by omega)) u37 (by decide)) (WIN.nx (WIN.fr i13 fl25 (fun _ => rfl)) ⟨by omega, by omega⟩ ⟨by omega, by omega⟩ (by omega) rfl (by omega) i32 u37) (by omega))
            · refine s_aload_n kx_86_36 rfl ?_
              refine s_aload_n kx_86_37 rfl ?_
              refine s_iload_n kx_86_38 rfl ?_
              refine s_iload_n kx_86_39 rfl ?_
              refine s_iload kx_86_40 rfl ?_
              refine s_callV2 (k := 54) (s1 := 5) (s2 := 0) (as := [(0, x5_24), (0, x3_5), (0, person), rf 7]) (rest := []) kx_86_42 kp_86_125 (Or.inl rfl) rfl (tk_54 hT) ki_87 kcl_87 rfl rfl (by decide) (g_87 (d := d) (person := person) (room := x3_5) (state := x5_24) hT hI25 ht ((fl25 7 0 rfl).trans ((fl6 7 0 rfl).trans ((fr2 7 0 rfl).trans h70))) (CR.fr (CR.fr hc3 fl6 ht rfl) fl25 ht rfl) (STL.fr (STL.fr hc4 fl6 rfl (fun _ => rfl) (fun _ => rfl)) fl25 rfl (fun _ => rfl) (fun _ => rfl)) (by omega) (by omega) (by omega) (by omega) (by omega)) (kF (fun v40 v40p => ?_))
              have hc41 := (CR.fr (CR.fr hc3 fl6 ht rfl) fl25 ht rfl)
              have hc42 := (STL.fr (STL.fr hc4 fl6 rfl (fun _ => rfl) (fun _ => rfl)) fl25 rfl (fun _ => rfl) (fun _ => rfl))
              refine s_istore kx_86_45 km_86_6 rfl ?_
              refine s_iload kx_86_47 rfl ?_
              refine s_iconst (v := (-1)) kx_86_49 (by decide) ?_
              refine s_icmp_eq (t := 96) kx_86_50 (by decide) (fun hc43 => ?_) (fun hc43 => ?_)
              · refine r_iinc kx_86_96 rfl km_86_5 (by decide) ⟨by omega, by omega⟩ rfl ?_
                refine s_goto (t := 27) kx_86_99 (by decide) ?_
                exact cP.wk (lS1 rfl (lS1 rfl (lS1 rfl (lS1 rfl (lS1 rfl (lS1 rfl lS0)))))) (ih34 x4_23 (x5_24 + 1) M25 hI25 hFm25 hFl1025 fl25 (by omega) (by omega) (by omega) (FRS.no i31 (by omega) (v40p.2.2.1.symm.trans (by omega))) (yV_no (by omega) (v40p.2.2.1.symm.trans (by omega)) i32) (by omega))
              · refine s_iload kx_86_53 rfl ?_
                refine s_aload_n kx_86_55 rfl ?_
                refine r_getR (k := 54) (f := 2) (k2 := 57) kx_86_56 kp_86_18 (tk_54 hT) kf_6_2 (by decide) (rq_54_2 hI25) ?_
                refine s_iload_n kx_86_59 rfl ?_
                refine s_sipush (v := 256) kx_86_60 (by decide) ?_
                refine r_mul kx_86_63 ⟨by omega, by omega⟩ ?_
                refine s_iload kx_86_64 rfl ?_
                refine r_add kx_86_66 ⟨by omega, by omega⟩ ?_
                refine r_aldU (k := 57) kx_86_67 (tk_57 hT) ⟨by omega, by omega⟩ (fun v44 v44e => ?_)
                refine s_aload_n kx_86_68 rfl ?_
                refine r_getR (k := 54) (f := 3) (k2 := 58) kx_86_69 kp_86_21 (tk_54 hT) kf_6_3 (by decide) (rq_54_3 hI25) ?_
                refine s_iload kx_86_72 rfl ?_
                refine r_aldU (k := 58) kx_86_74 (tk_58 hT) ⟨by omega, by omega⟩ (fun v45 v45e => ?_)
                refine s_imul (z := (tbT v44 v45)) kx_86_75 rfl ?_
                refine s_iadd (z := (tbP x4_23 (tbT v44 v45))) kx_86_76 rfl ?_
                refine s_istore kx_86_77 km_86_4 rfl ?_
                refine s_aload_n kx_86_79 rfl ?_
                refine r_getR (k := 54) (f := 4) (k2 := 59) kx_86_80 kp_86_24 (tk_54 hT) kf_6_4 (by decide) (rq_54_4 hI25) ?_
                refine s_iload kx_86_83 rfl ?_
                refine s_dup2 kx_86_85 rfl rfl ?_
                refine r_aldU (k := 59) kx_86_86 (tk_59 hT) ⟨by omega, by omega⟩ (fun v46 v46e => ?_)
                refine s_aload_n kx_86_87 rfl ?_
                refine r_getR (k := 54) (f := 3) (k2 := 58) kx_86_88 kp_86_21 (tk_54 hT) kf_6_3 (by decide) (rq_54_3 hI25) ?_
                refine s_iload kx_86_91 rfl ?_
                refine r_aldK (k := 58) kx_86_93 (tk_58 hT) ⟨by omega, by omega⟩ v45e ?_
                refine s_iadd (z := (tbP v46 v45)) kx_86_94 rfl ?_
                refine r_ast (k := 59) kx_86_95 (tk_59 hT) ⟨by omega, by omega⟩ hI25 ru_59 (fun M47 hI47 u47 => ?_)
                have hFm47 := hFm25.up u47 rfl
                have hFl1047 := hFl1025.up u47 rfl
                have hFl2747 := fl25.up u47 rfl
                have hc48 := (CR.up hc41 u47 ht (by omega))
                have hc49 := (STL.up hc42 u47 (by decide))
                refine r_iinc kx_86_96 rfl km_86_5 (by decide) ⟨by omega, by omega⟩ rfl ?_
                refine s_goto (t := 27) kx_86_99 (by decide) ?_
                exact cP.wk (lS1 rfl (lS1 rfl (lS1 rfl (lS1 rfl (lS1 rfl (lS1 rfl lS0)))))) (ih34 (tbP x4_23 (tbT v44 v45)) (x5_24 + 1) M47 hI47 hFm47 hFl1047 hFl2747 (by omega) (by omega) (by omega) (FRS.nx i31 ⟨by omega, by omega⟩ v40p.2.2.1 (by omega) (((AFT.fr (AFT.fr (AFT.fr hA fr2 (fun _ => rfl)) fl6 (fun _ => rfl)) fl25 (fun _ => rfl)) v40 (by omega) (by omega)).symm.trans v45e) rfl v46e u47) (yV_nx (by omega) v40p.2.2.1 (by omega) (((AFT.fr (AFT.fr (AFT.fr hA fr2 (fun _ => rfl)) fl6 (fun _ => rfl)) fl25 (fun _ => rfl)) v40 (by omega) (by omega)).symm.trans v45e) (((BFD.fr (BFD.fr (BFD.fr hB fr2 (fun _ => rfl)) fl6 (fun _ => rfl)) fl25 (fun _ => rfl)) person x5_24 (by omega) (by omega) (by omega) (by omega)).symm.trans v44e) i32) (by omega))
        exact cP.wk (lS1 rfl (lS1 rfl (lS1 rfl (lS1 rfl (lS1 rfl (lS1 rfl lS0)))))) (key26 _ 0 0 M6 hI6 hFm6 fl6 Fr.refl (by omega) (by omega) (by omega) i12 wr_0.symm (Nat.lt_succ_self _))
  exact cP.wk (lS1 rfl (lS1 rfl (lS1 rfl (lS1 rfl lS0)))) (key7 _ 0 M2 hI2 hFm2 Fr.refl (by omega) (by omega) (by omega) (FRS.st (fun i hi => v1p i (by omega)) hS2) (WIN.fr hW fr2 (fun _ => rfl)) (Nat.lt_succ_self _))
