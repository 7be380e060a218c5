def gC_85_l17 : List (Nat × Nat) := [(57, 99999)]
def gC_85_l32 : List (Nat × Nat) := [(57, 99999)]
def gC_85_l46 : List (Nat × Nat) := [(57, 99999)]
def gC_85_m : List (Nat × Nat) := [(57, 99999)]
theorem g_85 {xs : Nat → Int} {Ln d : Nat} {T : List cK} {M : cM} (hT : TT T) (hI : Rng M) {t : Nat} (ht : t = 8 ∨ t = 25) (h70 : M 7 0 = ((t : Nat) : Int)) {D S : cM} (hC : CR D S t M) {w : Int → Int} (hL : STL w M) : cC k_P xs Ln (d + 3) 85 [rf 54, rf 7] (T, M) (qV T M gC_85_m (fun M1 => BFD D S w M1)) := by
  show cP k_P xs Ln (d + 3) 85 0 [(0, rf 54), (1, rf 7)] [] (T, M) _
  have hFm : Fr gC_85_m M M := Fr.refl
  have hD := hC.2.1
  have hDr := hD.rg
  have hSW := hC.2.2.2.2
  have hS2 := hL.2.2.1
  have hS1 := pPr_pos (rdxC hL.2.2.2).1 8
  refine s_aload_n kx_85_0 rfl ?_
  refine r_getR (k := 54) (f := 2) (k2 := 57) kx_85_1 kp_85_18 (tk_54 hT) kf_6_2 (by decide) (rq_54_2 hI) ?_
  refine s_iconst (v := 0) kx_85_4 (by decide) ?_
  refine s_callS2 (s1 := 2) (s2 := 0) (as := [(0, 0), rf 57]) (rest := []) kx_85_5 kp_85_100 rfl kcl_301 rfl rfl (by decide) (f_fill (d := d + 2) (val := 0) hT hI (k := 57) (n := 2048) (tk_57 hT) (by decide) (fun _ => ru_57)) (kV (fun M2 hI2 fr2 v1p => ?_))
  have hFm2 := hFm.call fr2 rfl
  have hc3 := (CR.fr hC fr2 ht rfl)
  have hc4 := (STL.fr hL fr2 rfl (fun _ => rfl) (fun _ => rfl))
  refine s_aload_n kx_85_8 rfl ?_
  refine r_getR (k := 54) (f := 2) (k2 := 57) kx_85_9 kp_85_18 (tk_54 hT) kf_6_2 (by decide) (rq_54_2 hI2) ?_
  refine s_iconst (v := 0) kx_85_12 (by decide) ?_
  refine s_iconst (v := 1) kx_85_13 (by decide) ?_
  refine r_ast (k := 57) kx_85_14 (tk_57 hT) ⟨by decide, by decide⟩ hI2 ru_57 (fun M5 hI5 u5 => ?_)
  have hFm5 := hFm2.up u5 rfl
  have hc6 := (CR.up hc3 u5 ht (by omega))
  have hc7 := (STL.up hc4 u5 (by decide))
  refine s_iconst (v := 0) kx_85_15 (by decide) ?_
  refine s_istore_n kx_85_16 km_85_2 rfl ?_
  have key10 : ∀ n11 : Nat, ∀ (x2_8 : Int), ∀ M9 : cM, Rng M9 → Fr gC_85_m M M9 → Fr gC_85_l17 M5 M9 → (0 ≤ x2_8) → (x2_8 ≤ 8) → (BFR D S w x2_8 0 0 M9) → (2147483647 - x2_8).toNat < n11 → cP k_P xs Ln (d + 3) 85 17 [(0, rf 54), (1, rf 7), (2, (0, x2_8))] [] (T, M9) (qV T M gC_85_m (fun M1 => BFD D S w M1)) := by
    intro n11
    induction n11 with
    | zero => intro x2_8 M9 hI9 hFm9 fl9 i12 i13 i14 hm15; exact absurd hm15 (Nat.not_lt_zero _)
    | succ n11 ih16 =>
      intro x2_8 M9 hI9 hFm9 fl9 i12 i13 i14 hm15
      refine s_iload_n kx_85_17 rfl ?_
      refine s_iconst (v := 1) kx_85_18 (by decide) ?_
      refine r_add kx_85_19 ⟨by omega, by omega⟩ ?_
      refine s_aload_n kx_85_20 rfl ?_
      refine r_getR (k := 7) (f := 0) (k2 := t) kx_85_21 kp_85_48 (tk_7 hT) kf_5_0 (by decide) ((fl9 7 0 rfl).trans ((u5.2 7 0 (by omega)).trans ((fr2 7 0 rfl).trans h70))) ?_
      refine r_getI (k := t) (f := 1) kx_85_24 kp_85_58 (tkt_0 hT ht) kf_9_1 (fun _ => rfl) (rgt_0_1 hI9 ht) (fun v17 v17e v17a v17b => ?_)
      have v17d : D 0 1 = v17 := (((CR.fr hc6 fl9 ht rfl)).1 0 1 (by decide)).symm.trans v17e
      have v17z : M t 1 = v17 := (((fl9 t 1 (by rcases ht with rfl | rfl <;> rfl)).trans ((u5.2 t 1 (by omega)).trans (fr2 t 1 (by rcases ht with rfl | rfl <;> rfl))))).symm.trans v17e
      refine s_icmp_ge (t := 121) kx_85_27 (by decide) (fun hc18 => ?_) (fun hc18 => ?_)
      · exact s_vret kx_85_121 kq_85 ⟨_, rfl, rfl, hI9, hFm9, (BFR.en i14 (by omega) (by omega))⟩
      · refine s_iconst (v := 0) kx_85_30 (by decide) ?_
        refine s_istore_n kx_85_31 km_85_3 rfl ?_
        have key21 : ∀ n22 : Nat, ∀ (x3_19 : Int), ∀ M20 : cM, Rng M20 → Fr gC_85_m M M20 → Fr gC_85_l17 M5 M20 → Fr gC_85_l32 M9 M20 → (0 ≤ x3_19) → (x3_19 ≤ 8) → (x3_19 ≤ D 0 0) → (BFR D S w x2_8 x3_19 0 M20) → (2147483647 - x3_19).toNat < n22 → cP k_P xs Ln (d + 3) 85 32 [(0, rf 54), (1, rf 7), (2, (0, x2_8)), (3, (0, x3_19))] [] (T, M20) (qV T M gC_85_m (fun M1 => BFD D S w M1)) := by
          intro n22
          induction n22 with
          | zero => intro x3_19 M20 hI20 hFm20 hFl1720 fl20 i23 i24 i25 i26 hm27; exact absurd hm27 (Nat.not_lt_zero _)
          | succ n22 ih28 =>
            intro x3_19 M20 hI20 hFm20 hFl1720 fl20 i23 i24 i25 i26 hm27
            refine s_iload_n kx_85_32 rfl ?_
            refine s_aload_n kx_85_33 rfl ?_
            refine r_getR (k := 7) (f := 0) (k2 := t) kx_85_34 kp_85_48 (tk_7 hT) kf_5_0 (by decide) ((fl20 7 0 rfl).trans ((fl9 7 0 rfl).trans ((u5.2 7 0 (by omega)).trans ((fr2 7 0 rfl).trans h70)))) ?_
            refine r_getI (k := t) (f := 0) kx_85_37 kp_85_122 (tkt_0 hT ht) kf_9_0 (fun _ => rfl) (rgt_0_0 hI20 ht) (fun v29 v29e v29a v29b => ?_)
            have v29d : D 0 0 = v29 := (((CR.fr (CR.fr hc6 fl9 ht rfl) fl20 ht rfl)).1 0 0 (by decide)).symm.trans v29e
            have v29z : M t 0 = v29 := (((fl20 t 0 (by rcases ht with rfl | rfl <;> rfl)).trans ((fl9 t 0 (by rcases ht with rfl | rfl <;> rfl)).trans ((u5.2 t 0 (by omega)).trans (fr2 t 0 (by rcases ht with rfl | rfl <;> rfl)))))).symm.trans v29e
            refine s_icmp_ge (t := 115) kx_85_40 (by decide) (fun hc30 => ?_) (fun hc30 => ?_)
            · refine r_iinc kx_85_115 rfl km_85_2 (by decide) ⟨by omega, by omega⟩ rfl ?_
              refine s_goto (t := 17) kx_85_118 (by decide) ?_
              exact cP.wk (lS1 rfl (lS1 rfl (lS1 rfl lS0))) (ih16 (x2_8 + 1) M20 hI20 hFm20 hFl1720 (by omega) (by omega) (BFR.ps hL.2.2.2 i26 (by omega) (by omega)) (by omega))
            · refine s_iconst (v := 0) kx_85_43 (by decide) ?_
              refine s_istore kx_85_44 km_85_4 rfl ?_
              have key33 : ∀ n34 : Nat, ∀ (x4_31 : Int), ∀ M32 : cM, Rng M32 → Fr gC_85_m M M32 → Fr gC_85_l17 M5 M32 → Fr gC_85_l32 M9 M32 → Fr gC_85_l46 M20 M32 → (0 ≤ x4_31) → (x4_31 ≤ 256) → (x4_31 ≤ pPr (cAs w) 8) → (BFR D S w x2_8 x3_19 x4_31 M32) → (2147483647 - x4_31).toNat < n34 → cP k_P xs Ln (d + 3) 85 46 [(0, rf 54), (1, rf 7), (2, (0, x2_8)), (3, (0, x3_19)), (4, (0, x4_31))] [] (T, M32) (qV T M gC_85_m (fun M1 => BFD D S w M1)) := by
                intro n34
                induction n34 with
                | zero => intro x4_31 M32 hI32 hFm32 hFl1732 hFl3232 fl32 i35 i36 i37 i38 hm39; exact absurd hm39 (Nat.not_lt_zero _)
                | succ n34 ih40 =>
                  intro x4_31 M32 hI32 hFm32 hFl1732 hFl3232 fl32 i35 i36 i37 i38 hm39
                  refine s_iload kx_85_46 rfl ?_
                  refine s_aload_n kx_85_48 rfl ?_
                  refine r_getU (k := 54) (f := 7) kx_85_49 kp_85_34 (tk_54 hT) kf_6_7 (fun _ => rfl) (fun v41 v41e => ?_)
                  have v41S : v41 = pPr (cAs w) 8 := v41e.symm.trans (STL.fr (STL.fr (STL.fr hc7 fl9 rfl (fun _ => rfl) (fun _ => rfl)) fl20 rfl (fun _ => rfl) (fun _ => rfl)) fl32 rfl (fun _ => rfl) (fun _ => rfl)).2.1
                  have v41z : M 54 7 = v41 := (((fl32 54 7 rfl).trans ((fl20 54 7 rfl).trans ((fl9 54 7 rfl).trans ((u5.2 54 7 (by omega)).trans (fr2 54 7 rfl)))))).symm.trans v41e
                  refine s_icmp_ge (t := 109) kx_85_52 (by decide) (fun hc42 => ?_) (fun hc42 => ?_)
                  · refine r_iinc kx_85_109 rfl km_85_3 (by decide) ⟨by omega, by omega⟩ rfl ?_
                    refine s_goto (t := 32) kx_85_112 (by decide) ?_
                    exact cP.wk (lS1 rfl (lS1 rfl (lS1 rfl (lS1 rfl lS0)))) (ih28 (x3_19 + 1) M32 hI32 hFm32 hFl1732 hFl3232 (by omega) (by omega) (by omega) (BFR.rm i38 (by omega) (by omega)) (by omega))
                  · refine s_aload_n kx_85_55 rfl ?_
                    refine s_aload_n kx_85_56 rfl ?_
                    refine s_iload_n kx_85_57 rfl ?_
                    refine s_iload_n kx_85_58 rfl ?_
                    refine s_iload kx_85_59 rfl ?_
                    refine s_callV2 (k := 54) (s1 := 5) (s2 := 0) (as := [(0, x4_31), (0, x3_19), (0, x2_8), rf 7]) (rest := []) kx_85_61 kp_85_125 (Or.inl rfl) rfl (tk_54 hT) ki_87 kcl_87 rfl rfl (by decide) (g_87 (d := d) (person := x2_8) (room := x3_19) (state := x4_31) hT hI32 ht ((fl32 7 0 rfl).trans ((fl20 7 0 rfl).trans ((fl9 7 0 rfl).trans ((u5.2 7 0 (by omega)).trans ((fr2 7 0 rfl).trans h70))))) (CR.fr (CR.fr (CR.fr hc6 fl9 ht rfl) fl20 ht rfl) fl32 ht rfl) (STL.fr (STL.fr (STL.fr hc7 fl9 rfl (fun _ => rfl) (fun _ => rfl)) fl20 rfl (fun _ => rfl) (fun _ => rfl)) fl32 rfl (fun _ => rfl) (fun _ => rfl)) (by omega) (by omega) (by omega) (by omega) (by omega)) (kF (fun v43 v43p => ?_))
                    have hc44 := (CR.fr (CR.fr (CR.fr hc6 fl9 ht rfl) fl20 ht rfl) fl32 ht rfl)
                    have hc45 := (STL.fr (STL.fr (STL.fr hc7 fl9 rfl (fun _ => rfl) (fun _ => rfl)) fl20 rfl (fun _ => rfl) (fun _ => rfl)) fl32 rfl (fun _ => rfl) (fun _ => rfl))
                    refine s_istore kx_85_64 km_85_5 rfl ?_
                    refine s_iload kx_85_66 rfl ?_
                    refine s_iconst (v := (-1)) kx_85_68 (by decide) ?_
                    refine s_icmp_eq (t := 103) kx_85_69 (by decide) (fun hc46 => ?_) (fun hc46 => ?_)
                    · refine r_iinc kx_85_103 rfl km_85_4 (by decide) ⟨by omega, by omega⟩ rfl ?_
                      refine s_goto (t := 46) kx_85_106 (by decide) ?_
                      exact cP.wk (lS1 rfl (lS1 rfl (lS1 rfl (lS1 rfl (lS1 rfl lS0))))) (ih40 (x4_31 + 1) M32 hI32 hFm32 hFl1732 hFl3232 fl32 (by omega) (by omega) (by omega) (BFR.no i38 (by omega) (v43p.2.2.1.symm.trans (by omega))) (by omega))
                    · refine s_aload_n kx_85_72 rfl ?_
                      refine r_getR (k := 54) (f := 2) (k2 := 57) kx_85_73 kp_85_18 (tk_54 hT) kf_6_2 (by decide) (rq_54_2 hI32) ?_
                      refine s_iload_n kx_85_76 rfl ?_
                      refine s_iconst (v := 1) kx_85_77 (by decide) ?_
                      refine r_add kx_85_78 ⟨by omega, by omega⟩ ?_
                      refine s_sipush (v := 256) kx_85_79 (by decide) ?_
                      refine r_mul kx_85_82 ⟨by omega, by omega⟩ ?_
                      refine s_iload kx_85_83 rfl ?_
                      refine r_add kx_85_85 ⟨by omega, by omega⟩ ?_
                      refine s_dup2 kx_85_86 rfl rfl ?_
                      refine r_aldU (k := 57) kx_85_87 (tk_57 hT) ⟨by omega, by omega⟩ (fun v47 v47e => ?_)
                      refine s_aload_n kx_85_88 rfl ?_
                      refine r_getR (k := 54) (f := 2) (k2 := 57) kx_85_89 kp_85_18 (tk_54 hT) kf_6_2 (by decide) (rq_54_2 hI32) ?_
                      refine s_iload_n kx_85_92 rfl ?_
                      refine s_sipush (v := 256) kx_85_93 (by decide) ?_
                      refine r_mul kx_85_96 ⟨by omega, by omega⟩ ?_
                      refine s_iload kx_85_97 rfl ?_
                      refine r_add kx_85_99 ⟨by omega, by omega⟩ ?_
                      refine r_aldU (k := 57) kx_85_100 (tk_57 hT) ⟨by omega, by omega⟩ (fun v48 v48e => ?_)
                      refine s_iadd (z := (tbP v47 v48)) kx_85_101 rfl ?_
                      refine r_ast (k := 57) kx_85_102 (tk_57 hT) ⟨by omega, by omega⟩ hI32 ru_57 (fun M49 hI49 u49 => ?_)
                      have hFm49 := hFm32.up u49 rfl
                      have hFl1749 := hFl1732.up u49 rfl
                      have hFl3249 := hFl3232.up u49 rfl
                      have hFl4649 := fl32.up u49 rfl
                      have hc50 := (CR.up hc44 u49 ht (by omega))
                      have hc51 := (STL.up hc45 u49 (by decide))
                      refine r_iinc kx_85_103 rfl km_85_4 (by decide) ⟨by omega, by omega⟩ rfl ?_
                      refine s_goto (t := 46) kx_85_106 (by decide) ?_
                      exact cP.wk (lS1 rfl (lS1 rfl (lS1 rfl (lS1 rfl (lS1 rfl lS0))))) (ih40 (x4_31 + 1) M49 hI49 hFm49 hFl1749 hFl3249 hFl4649 (by omega) (by omega) (by omega) (BFR.nx i38 ⟨by omega, by omega⟩ ⟨by omega, by omega⟩ hS2 v43p.2.2.1 ⟨by omega, by omega⟩ rfl rfl v47e v48e u49) (by omega))
              exact cP.wk (lS1 rfl (lS1 rfl (lS1 rfl (lS1 rfl (lS1 rfl lS0))))) (key33 _ 0 M20 hI20 hFm20 hFl1720 fl20 Fr.refl (by omega) (by omega) (by omega) i26 (Nat.lt_succ_self _))
        exact cP.wk (lS1 rfl (lS1 rfl (lS1 rfl (lS1 rfl lS0)))) (key21 _ 0 M9 hI9 hFm9 fl9 Fr.refl (by omega) (by omega) (by omega) i14 (Nat.lt_succ_self _))
  exact cP.wk (lS1 rfl (lS1 rfl (lS1 rfl lS0))) (key10 _ 0 M5 hI5 hFm5 Fr.refl (by omega) (by omega) (BFR.st hS2 (fun i hi => v1p i (by omega)) u5 rfl) (Nat.lt_succ_self _))
