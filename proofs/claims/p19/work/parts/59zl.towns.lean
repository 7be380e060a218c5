def gC_42_l28 : List (Nat × Nat) := [(42, 99999)]
def gC_42_m : List (Nat × Nat) := [(42, 99999), (7, 0), (7, 1)]
theorem g_42 {xs : Nat → Int} {Ln d : Nat} {T : List cK} {M : cM} (hT : TT T) (hI : Rng M) {t u : Nat} (ht : t = 8 ∨ t = 25) (hu : u = 8 ∨ u = 25) (h71 : M 7 1 = ((t : Nat) : Int)) (h7u : M 7 0 = ((u : Nat) : Int)) : cC k_P xs Ln (d + 1) 42 [rf 7] (T, M) (qV T M gC_42_m (fun M1 => M1 7 0 = ((t : Nat) : Int) ∧ M1 7 1 = ((u : Nat) : Int) ∧ TDr M t (M t 1) M1)) := by
  show cP k_P xs Ln (d + 1) 42 0 [(0, rf 7)] [] (T, M) _
  have hFm : Fr gC_42_m M M := Fr.refl
  have hr10 := rgt_0_1 hI ht
  refine s_aload_n kx_42_0 rfl ?_
  refine r_getR (k := 7) (f := 0) (k2 := u) kx_42_1 kp_42_14 (tk_7 hT) kf_5_0 (by decide) h7u ?_
  refine s_astore_n kx_42_4 km_42_1 rfl ?_
  refine s_aload_n kx_42_5 rfl ?_
  refine s_aload_n kx_42_6 rfl ?_
  refine r_getR (k := 7) (f := 1) (k2 := t) kx_42_7 kp_42_18 (tk_7 hT) kf_5_1 (by decide) h71 ?_
  refine r_put (k := 7) (f := 0) kx_42_10 kp_42_14 (tk_7 hT) kf_5_0 rfl (by decide) (by decide) hI (ru_7_0 (by omega) (by omega)) (fun M1 hI1 u1 => ?_)
  have hFm1 := hFm.up u1 rfl
  refine s_aload_n kx_42_13 rfl ?_
  refine s_aload_n kx_42_14 rfl ?_
  refine r_put (k := 7) (f := 1) kx_42_15 kp_42_18 (tk_7 hT) kf_5_1 rfl (by decide) (by decide) hI1 (ru_7_1 (by omega) (by omega)) (fun M2 hI2 u2 => ?_)
  have hFm2 := hFm1.up u2 rfl
  refine s_aload_n kx_42_18 rfl ?_
  refine r_getR (k := 7) (f := 2) (k2 := 42) kx_42_19 kp_42_21 (tk_7 hT) kf_5_2 (by decide) (rq_7_2 hI2) ?_
  refine s_iconst (v := 0) kx_42_22 (by decide) ?_
  refine s_callS2 (s1 := 2) (s2 := 0) (as := [(0, 0), rf 42]) (rest := []) kx_42_23 kp_42_30 rfl kcl_301 rfl rfl (by decide) (f_fill (d := d) (val := 0) hT hI2 (k := 42) (n := 81) (tk_42 hT) (by decide) (fun _ => (ru_42 (fun _ => by omega) (fun _ => by omega)))) (kV (fun M4 hI4 fr4 v3p => ?_))
  have hFm4 := hFm2.call fr4 rfl
  have htd0 : TDr M t 0 M4 := fun q hq => ⟨fun z => absurd z (by omega), v3p (16 + q) (by omega), v3p (24 + q) (by omega), v3p 40 (by omega)⟩
  refine s_iconst (v := 0) kx_42_26 (by decide) ?_
  refine s_istore_n kx_42_27 km_42_2 rfl ?_
  have key7 : ∀ n8 : Nat, ∀ (x2_5 : Int), ∀ M6 : cM, Rng M6 → Fr gC_42_m M M6 → Fr gC_42_l28 M4 M6 → (0 ≤ x2_5) → (x2_5 ≤ 8) → (x2_5 ≤ M t 1) → (TDr M t x2_5 M6) → (2147483647 - x2_5).toNat < n8 → cP k_P xs Ln (d + 1) 42 28 [(0, rf 7), (2, (0, x2_5))] [] (T, M6) (qV T M gC_42_m (fun M1 => M1 7 0 = ((t : Nat) : Int) ∧ M1 7 1 = ((u : Nat) : Int) ∧ TDr M t (M t 1) M1)) := by
    intro n8
    induction n8 with
    | zero => intro x2_5 M6 hI6 hFm6 fl6 i9 i10 i11 i12 hm13; exact absurd hm13 (Nat.not_lt_zero _)
    | succ n8 ih14 =>
      intro x2_5 M6 hI6 hFm6 fl6 i9 i10 i11 i12 hm13
      refine s_iload_n kx_42_28 rfl ?_
      refine s_aload_n kx_42_29 rfl ?_
      refine r_getR (k := 7) (f := 0) (k2 := t) kx_42_30 kp_42_14 (tk_7 hT) kf_5_0 (by decide) ((fl6 7 0 rfl).trans ((fr4 7 0 rfl).trans ((u2.2 7 0 (by omega)).trans u1.1))) ?_
      refine r_getI (k := t) (f := 1) kx_42_33 kp_42_36 (tkt_0 hT ht) kf_9_1 (fun _ => rfl) (rgt_0_1 hI6 ht) (fun v15 v15e v15a v15b => ?_)
      have v15z : M t 1 = v15 := (((fl6 t 1 (by rcases ht with rfl | rfl <;> rfl)).trans ((fr4 t 1 (by rcases ht with rfl | rfl <;> rfl)).trans ((u2.2 t 1 (by omega)).trans (u1.2 t 1 (by omega)))))).symm.trans v15e
      refine s_icmp_ge (t := 80) kx_42_36 (by decide) (fun hc16 => ?_) (fun hc16 => ?_)
      · exact s_vret kx_42_80 kq_42 ⟨_, rfl, rfl, hI6, hFm6, ⟨((fl6 7 0 rfl).trans ((fr4 7 0 rfl).trans ((u2.2 7 0 (by omega)).trans u1.1))), ((fl6 7 1 rfl).trans ((fr4 7 1 rfl).trans u2.1)), by rw [show M t 1 = x2_5 by omega]; exact i12⟩⟩
      · refine s_aload_n kx_42_39 rfl ?_
        refine r_getR (k := 7) (f := 2) (k2 := 42) kx_42_40 kp_42_21 (tk_7 hT) kf_5_2 (by decide) (rq_7_2 hI6) ?_
        refine s_iconst (v := 0) kx_42_43 (by decide) ?_
        refine s_iload_n kx_42_44 rfl ?_
        refine r_add kx_42_45 ⟨by omega, by omega⟩ ?_
        refine s_aload_n kx_42_46 rfl ?_
        refine r_getR (k := 7) (f := 0) (k2 := t) kx_42_47 kp_42_14 (tk_7 hT) kf_5_0 (by decide) ((fl6 7 0 rfl).trans ((fr4 7 0 rfl).trans ((u2.2 7 0 (by omega)).trans u1.1))) ?_
        refine r_getR (k := t) (f := 13) (k2 := (t + 10)) kx_42_50 kp_42_40 (tkt_0 hT ht) kf_9_13 (by decide) (rqt_13 hI6 ht) ?_
        refine s_iload_n kx_42_53 rfl ?_
        refine r_ald (k := (t + 10)) kx_42_54 (tkt_10 hT ht) ⟨by omega, by omega⟩ (rgt_10 hI6 ht) (fun v17 v17e v17a v17b => ?_)
        refine r_ast (k := 42) kx_42_55 (tk_42 hT) ⟨by omega, by omega⟩ hI6 (ru_42 (fun _ => by omega) (fun _ => by omega)) (fun M18 hI18 u18 => ?_)
        have hFm18 := hFm6.up u18 rfl
        have hFl2818 := fl6.up u18 rfl
        refine s_aload_n kx_42_56 rfl ?_
        refine r_getR (k := 7) (f := 2) (k2 := 42) kx_42_57 kp_42_21 (tk_7 hT) kf_5_2 (by decide) (rq_7_2 hI18) ?_
        refine s_bipush (v := 8) kx_42_60 (by decide) ?_
        refine s_iload_n kx_42_62 rfl ?_
        refine r_add kx_42_63 ⟨by omega, by omega⟩ ?_
        refine s_aload_n kx_42_64 rfl ?_
        refine r_getR (k := 7) (f := 0) (k2 := t) kx_42_65 kp_42_14 (tk_7 hT) kf_5_0 (by decide) ((u18.2 7 0 (by omega)).trans ((fl6 7 0 rfl).trans ((fr4 7 0 rfl).trans ((u2.2 7 0 (by omega)).trans u1.1)))) ?_
        refine r_getR (k := t) (f := 13) (k2 := (t + 10)) kx_42_68 kp_42_40 (tkt_0 hT ht) kf_9_13 (by decide) (rqt_13 hI18 ht) ?_
        refine s_iload_n kx_42_71 rfl ?_
        refine r_aldK (k := (t + 10)) kx_42_72 (tkt_10 hT ht) ⟨by omega, by omega⟩ ((u18.2 (t + 10) _ (by omega)).trans v17e) ?_
        refine r_ast (k := 42) kx_42_73 (tk_42 hT) ⟨by omega, by omega⟩ hI18 (ru_42 (fun _ => by omega) (fun _ => by omega)) (fun M19 hI19 u19 => ?_)
        have hFm19 := hFm18.up u19 rfl
        have hFl2819 := hFl2818.up u19 rfl
        refine r_iinc kx_42_74 rfl km_42_2 (by decide) ⟨by omega, by omega⟩ rfl ?_
        refine s_goto (t := 28) kx_42_77 (by decide) ?_
        exact cP.wk (lS1 rfl (lS1 rfl lS0)) (ih14 (x2_5 + 1) M19 hI19 hFm19 hFl2819 (by omega) (by omega) (by omega) (TDr.nx i12 ⟨by omega, by omega⟩ u18 u19 (by omega) (by omega) ((((fl6 (t + 10) _ (by rcases ht with rfl | rfl <;> rfl)).trans ((fr4 (t + 10) _ (by rcases ht with rfl | rfl <;> rfl)).trans ((u2.2 (t + 10) _ (by omega)).trans (u1.2 (t + 10) _ (by omega)))))).symm.trans v17e) ((((fl6 (t + 10) _ (by rcases ht with rfl | rfl <;> rfl)).trans ((fr4 (t + 10) _ (by rcases ht with rfl | rfl <;> rfl)).trans ((u2.2 (t + 10) _ (by omega)).trans (u1.2 (t + 10) _ (by omega)))))).symm.trans v17e)) (by omega))
  exact cP.wk (lS1 rfl (lS1 rfl lS0)) (key7 _ 0 M4 hI4 hFm4 Fr.refl (by omega) (by omega) (by omega) htd0 (Nat.lt_succ_self _))
def gT_138_m : List (Nat × Nat) := [(0, 10), (0, 11), (1, 1), (10, 99999), (11, 99999), (114, 99999), (12, 99999), (13, 99999), (14, 99999), (15, 99999), (16, 99999), (17, 99999), (18, 99999), (19, 1), (19, 2), (21, 99999), (22, 1), (22, 2), (24, 99999), (25, 0), (25, 1), (25, 2), (25, 3), (26, 99999), (27, 99999), (28, 99999), (29, 99999), (3, 2), (30, 99999), (31, 99999), (32, 99999), (33, 99999), (34, 99999), (35, 99999), (36, 1), (36, 2), (38, 99999), (39, 1), (39, 2), (41, 99999), (42, 99999), (44, 2), (5, 0), (5, 1), (5, 2), (5, 3), (5, 4), (5, 5), (5, 6), (5, 7), (51, 2), (54, 6), (61, 99999), (7, 0), (7, 1), (8, 0), (8, 1), (8, 2), (8, 3), (9, 99999)]
theorem g_138 {xs : Nat → Int} {Ln d : Nat} {T : List cK} {M : cM} (hT : TT T) (hI : Rng M) (hG : Gm T M) {t u : Nat} (ht : t = 8 ∨ t = 25) (hu : u = 8 ∨ u = 25) (h71 : M 7 1 = ((t : Nat) : Int)) (h7u : M 7 0 = ((u : Nat) : Int)) (hux : u = 8 ∧ t = 25 ∨ u = 25 ∧ t = 8) : cC k_P xs Ln (d + 87) 138 [rf 0] (T, M) (qG T M gT_138_m 0 (fun v M1 => (v = -1 ∧ (∀ f, M1 42 f = M 42 f) ∧ (∀ f, M1 44 f = M 44 f) ∧ (∀ f, M1 45 f = M 45 f) ∧ M1 0 12 = M 0 12) ∨ (v ≠ -1 ∧ M1 44 2 = 0 ∧ M1 0 12 = M 0 12 ∧ TDr M1 t (M1 t 1) M1))) := by
  show cP k_P xs Ln (d + 87) 138 0 [(0, rf 0)] [] (T, M) _
  have hFm : Fr gT_138_m M M := Fr.refl
  refine s_aload_n kx_138_0 rfl ?_
  refine r_getR (k := 0) (f := 1) (k2 := 3) kx_138_1 kp_138_19 (tk_0 hT) kf_11_1 (by decide) (rq_0_1 hI) ?_
  refine s_aload_n kx_138_4 rfl ?_
  refine r_getR (k := 0) (f := 0) (k2 := 1) kx_138_5 kp_138_10 (tk_0 hT) kf_11_0 (by decide) (rq_0_0 hI) ?_
  refine s_aload_n kx_138_8 rfl ?_
  refine r_getR (k := 0) (f := 2) (k2 := 7) kx_138_9 kp_138_26 (tk_0 hT) kf_11_2 (by decide) (rq_0_2 hI) ?_
  refine r_getR (k := 7) (f := 1) (k2 := t) kx_138_12 kp_138_89 (tk_7 hT) kf_5_1 (by decide) h71 ?_
  refine s_callV2 (k := 3) (s1 := 3) (s2 := 0) (as := [rf t, rf 1]) (rest := []) kx_138_15 kp_138_93 (Or.inl rfl) rfl (tk_3 hT) ki_121 kcl_121 rfl rfl (by decide) (m_121 (d := d) hT hI ht hG) (kG (fun v1 T2 M2 hT2 hI2 fr2 hG2 v1p => ?_))
  have hFm2 := hFm.call fr2 rfl
  refine s_istore_n kx_138_18 km_138_1 rfl ?_
  refine s_aload_n kx_138_19 rfl ?_
  refine r_getR (k := 0) (f := 0) (k2 := 1) kx_138_20 kp_138_10 (tk_0 hT2) kf_11_0 (by decide) (rq_0_0 hI2) ?_
  refine s_iconst (v := 0) kx_138_23 (by decide) ?_
  refine r_put (k := 1) (f := 1) kx_138_24 kp_138_78 (tk_1 hT2) kf_8_1 rfl (by decide) (by decide) hI2 (ru_1_1 (by omega) (by omega)) (fun M3 hI3 u3 => ?_)
  have hFm3 := hFm2.up u3 rfl
  refine s_aload_n kx_138_27 rfl ?_
  refine s_aload_n kx_138_28 rfl ?_
  refine r_getR (k := 0) (f := 1) (k2 := 3) kx_138_29 kp_138_19 (tk_0 hT2) kf_11_1 (by decide) (rq_0_1 hI3) ?_
  refine r_getR (k := 3) (f := 1) (k2 := 5) kx_138_32 kp_138_97 (tk_3 hT2) kf_10_1 (by decide) (rq_3_1 hI3) ?_
  refine r_getU (k := 5) (f := 6) kx_138_35 kp_138_101 (tk_5 hT2) kf_3_6 (fun _ => rfl) (fun v4 v4e => ?_)
  refine r_put (k := 0) (f := 10) kx_138_38 kp_138_69 (tk_0 hT2) kf_11_10 rfl (by decide) (by decide) hI3 ru_0_10 (fun M5 hI5 u5 => ?_)
  have hFm5 := hFm3.up u5 rfl
  refine s_aload_n kx_138_41 rfl ?_
  refine s_aload_n kx_138_42 rfl ?_
  refine r_getK (k := 0) (f := 10) kx_138_43 kp_138_69 (tk_0 hT2) kf_11_10 (fun _ => rfl) u5.1 ?_
  refine s_if_ne (t := 53) kx_138_46 (by decide) (fun hc6 => ?_) (fun hc6 => ?_)
  · refine s_aload_n kx_138_53 rfl ?_
    refine r_getR (k := 0) (f := 1) (k2 := 3) kx_138_54 kp_138_19 (tk_0 hT2) kf_11_1 (by decide) (rq_0_1 hI5) ?_
    refine r_getR (k := 3) (f := 1) (k2 := 5) kx_138_57 kp_138_97 (tk_3 hT2) kf_10_1 (by decide) (rq_3_1 hI5) ?_
    refine r_getU (k := 5) (f := 7) kx_138_60 kp_138_106 (tk_5 hT2) kf_3_7 (fun _ => rfl) (fun v7 v7e => ?_)
    refine r_put (k := 0) (f := 11) kx_138_63 kp_138_72 (tk_0 hT2) kf_11_11 rfl (by decide) (by decide) hI5 ru_0_11 (fun M8 hI8 u8 => ?_)
    have hFm8 := hFm5.up u8 rfl
    refine s_iload_n kx_138_66 rfl ?_
    refine s_iconst (v := (-1)) kx_138_67 (by decide) ?_
    refine s_icmp_ne (t := 77) kx_138_68 (by decide) (fun hc9 => ?_) (fun hc9 => ?_)
    · refine s_aload_n kx_138_77 rfl ?_
      refine r_getR (k := 0) (f := 2) (k2 := 7) kx_138_78 kp_138_26 (tk_0 hT2) kf_11_2 (by decide) (rq_0_2 hI8) ?_
      refine s_callV2 (k := 7) (s1 := 1) (s2 := 0) (as := []) (rest := []) kx_138_81 kp_138_107 (Or.inl rfl) rfl (tk_7 hT2) ki_42 kcl_42 rfl rfl (by decide) (g_42 (d := d + 85) hT2 hI8 ht hu ((u8.2 7 1 (by omega)).trans ((u5.2 7 1 (by omega)).trans ((u3.2 7 1 (by omega)).trans ((fr2 7 1 rfl).trans h71)))) ((u8.2 7 0 (by omega)).trans ((u5.2 7 0 (by omega)).trans ((u3.2 7 0 (by omega)).trans ((fr2 7 0 rfl).trans h7u))))) (kV (fun M11 hI11 fr11 v10p => ?_))
      have hFm11 := hFm8.call fr11 rfl
      refine s_aload_n kx_138_84 rfl ?_
      refine r_getR (k := 0) (f := 3) (k2 := 44) kx_138_85 kp_138_33 (tk_0 hT2) kf_11_3 (by decide) (rq_0_3 hI11) ?_
      refine s_iconst (v := 0) kx_138_88 (by decide) ?_
      refine r_put (k := 44) (f := 2) kx_138_89 kp_138_110 (tk_44 hT2) kf_2_2 rfl (by decide) (by decide) hI11 ru_44_2 (fun M12 hI12 u12 => ?_)
      have hFm12 := hFm11.up u12 rfl
      refine s_aload_n kx_138_92 rfl ?_
      refine r_getR (k := 0) (f := 5) (k2 := 51) kx_138_93 kp_138_47 (tk_0 hT2) kf_11_5 (by decide) (rq_0_5 hI12) ?_
      refine s_iconst (v := 0) kx_138_96 (by decide) ?_
      refine r_put (k := 51) (f := 2) kx_138_97 kp_138_113 (tk_51 hT2) kf_0_2 rfl (by decide) (by decide) hI12 (ru_51_2 (by omega) (by omega)) (fun M13 hI13 u13 => ?_)
      have hFm13 := hFm12.up u13 rfl
      refine s_aload_n kx_138_100 rfl ?_
      refine r_getR (k := 0) (f := 6) (k2 := 54) kx_138_101 kp_138_54 (tk_0 hT2) kf_11_6 (by decide) (rq_0_6 hI13) ?_
      refine s_iconst (v := 0) kx_138_104 (by decide) ?_
      refine r_put (k := 54) (f := 6) kx_138_105 kp_138_116 (tk_54 hT2) kf_6_6 rfl (by decide) (by decide) hI13 (ru_54_6 (by omega) (by omega)) (fun M14 hI14 u14 => ?_)
      have hFm14 := hFm13.up u14 rfl
      refine s_iload_n kx_138_108 rfl ?_
      exact s_iret kx_138_109 (Or.inl kq_138) ⟨_, _, _, rfl, rfl, hT2, hI14, hFm14, (Gm.fr (Gm.fr (Gm.fr (Gm.fr (Gm.fr (Gm.fr (Gm.fr hG2 (Up.fr u3) rfl) (Up.fr u5) rfl) (Up.fr u8) rfl) fr11 rfl) (Up.fr u12) rfl) (Up.fr u13) rfl) (Up.fr u14) rfl), (Or.inr ⟨by omega, ((u14.2 44 2 (by omega)).trans ((u13.2 44 2 (by omega)).trans u12.1)), ((u14.2 0 12 (by omega)).trans ((u13.2 0 12 (by omega)).trans ((u12.2 0 12 (by omega)).trans ((fr11 0 12 rfl).trans ((u8.2 0 12 (by omega)).trans ((u5.2 0 12 (by omega)).trans ((u3.2 0 12 (by omega)).trans (fr2 0 12 rfl)))))))), (v10p.2.2).of (fun q => ((u14.2 42 _ (by omega)).trans ((u13.2 42 _ (by omega)).trans (u12.2 42 _ (by omega))))) (fun q => ((u14.2 (t + 10) _ (by omega)).trans ((u13.2 (t + 10) _ (by omega)).trans ((u12.2 (t + 10) _ (by omega)).trans (fr11 (t + 10) _ (by rcases ht with rfl | rfl <;> rfl)))))) (((u14.2 t 1 (by omega)).trans ((u13.2 t 1 (by omega)).trans ((u12.2 t 1 (by omega)).trans (fr11 t 1 (by rcases ht with rfl | rfl <;> rfl))))))⟩)⟩
    · refine s_aload_n kx_138_71 rfl ?_
      refine s_iconst (v := 1) kx_138_72 (by decide) ?_
      refine s_callV2 (k := 0) (s1 := 2) (s2 := 0) (as := [(0, 1)]) (rest := []) kx_138_73 kp_138_81 (Or.inl rfl) rfl (tk_0 hT2) ki_165 kcl_165 rfl rfl (by decide) (m_165 (d := d + 86) (kind := 1) hT2 hI8) (kW (fun v15 M16 hI16 fr16 v15p => ?_))
      have hFm16 := hFm8.call fr16 rfl
      exact s_iret kx_138_76 (Or.inl kq_138) ⟨_, _, _, rfl, rfl, hT2, hI16, hFm16, (Gm.fr (Gm.fr (Gm.fr (Gm.fr hG2 (Up.fr u3) rfl) (Up.fr u5) rfl) (Up.fr u8) rfl) fr16 rfl), (Or.inl ⟨by omega, fun f => ((fr16 42 _ rfl).trans ((u8.2 42 _ (by omega)).trans ((u5.2 42 _ (by omega)).trans ((u3.2 42 _ (by omega)).trans (fr2 42 _ rfl))))), fun f => ((fr16 44 _ rfl).trans ((u8.2 44 _ (by omega)).trans ((u5.2 44 _ (by omega)).trans ((u3.2 44 _ (by omega)).trans (fr2 44 _ rfl))))), fun f => ((fr16 45 _ rfl).trans ((u8.2 45 _ (by omega)).trans ((u5.2 45 _ (by omega)).trans ((u3.2 45 _ (by omega)).trans (fr2 45 _ rfl))))), ((fr16 0 12 rfl).trans ((u8.2 0 12 (by omega)).trans ((u5.2 0 12 (by omega)).trans ((u3.2 0 12 (by omega)).trans (fr2 0 12 rfl)))))⟩)⟩
  · refine s_iconst (v := (-1)) kx_138_49 (by decide) ?_
    refine s_goto (t := 63) kx_138_50 (by decide) ?_
    refine r_put (k := 0) (f := 11) kx_138_63 kp_138_72 (tk_0 hT2) kf_11_11 rfl (by decide) (by decide) hI5 ru_0_11 (fun M17 hI17 u17 => ?_)
    have hFm17 := hFm5.up u17 rfl
    refine s_iload_n kx_138_66 rfl ?_
    refine s_iconst (v := (-1)) kx_138_67 (by decide) ?_
    refine s_icmp_ne (t := 77) kx_138_68 (by decide) (fun hc18 => ?_) (fun hc18 => ?_)
    · refine s_aload_n kx_138_77 rfl ?_
      refine r_getR (k := 0) (f := 2) (k2 := 7) kx_138_78 kp_138_26 (tk_0 hT2) kf_11_2 (by decide) (rq_0_2 hI17) ?_
      refine s_callV2 (k := 7) (s1 := 1) (s2 := 0) (as := []) (rest := []) kx_138_81 kp_138_107 (Or.inl rfl) rfl (tk_7 hT2) ki_42 kcl_42 rfl rfl (by decide) (g_42 (d := d + 85) hT2 hI17 ht hu ((u17.2 7 1 (by omega)).trans ((u5.2 7 1 (by omega)).trans ((u3.2 7 1 (by omega)).trans ((fr2 7 1 rfl).trans h71)))) ((u17.2 7 0 (by omega)).trans ((u5.2 7 0 (by omega)).trans ((u3.2 7 0 (by omega)).trans ((fr2 7 0 rfl).trans h7u))))) (kV (fun M20 hI20 fr20 v19p => ?_))
      have hFm20 := hFm17.call fr20 rfl
      refine s_aload_n kx_138_84 rfl ?_
      refine r_getR (k := 0) (f := 3) (k2 := 44) kx_138_85 kp_138_33 (tk_0 hT2) kf_11_3 (by decide) (rq_0_3 hI20) ?_
      refine s_iconst (v := 0) kx_138_88 (by decide) ?_
      refine r_put (k := 44) (f := 2) kx_138_89 kp_138_110 (tk_44 hT2) kf_2_2 rfl (by decide) (by decide) hI20 ru_44_2 (fun M21 hI21 u21 => ?_)
      have hFm21 := hFm20.up u21 rfl
      refine s_aload_n kx_138_92 rfl ?_
      refine r_getR (k := 0) (f := 5) (k2 := 51) kx_138_93 kp_138_47 (tk_0 hT2) kf_11_5 (by decide) (rq_0_5 hI21) ?_
      refine s_iconst (v := 0) kx_138_96 (by decide) ?_
      refine r_put (k := 51) (f := 2) kx_138_97 kp_138_113 (tk_51 hT2) kf_0_2 rfl (by decide) (by decide) hI21 (ru_51_2 (by omega) (by omega)) (fun M22 hI22 u22 => ?_)
      have hFm22 := hFm21.up u22 rfl
      refine s_aload_n kx_138_100 rfl ?_
      refine r_getR (k := 0) (f := 6) (k2 := 54) kx_138_101 kp_138_54 (tk_0 hT2) kf_11_6 (by decide) (rq_0_6 hI22) ?_
      refine s_iconst (v := 0) kx_138_104 (by decide) ?_
      refine r_put (k := 54) (f := 6) kx_138_105 kp_138_116 (tk_54 hT2) kf_6_6 rfl (by decide) (by decide) hI22 (ru_54_6 (by omega) (by omega)) (fun M23 hI23 u23 => ?_)
      have hFm23 := hFm22.up u23 rfl
      refine s_iload_n kx_138_108 rfl ?_
      exact s_iret kx_138_109 (Or.inl kq_138) ⟨_, _, _, rfl, rfl, hT2, hI23, hFm23, (Gm.fr (Gm.fr (Gm.fr (Gm.fr (Gm.fr (Gm.fr (Gm.fr hG2 (Up.fr u3) rfl) (Up.fr u5) rfl) (Up.fr u17) rfl) fr20 rfl) (Up.fr u21) rfl) (Up.fr u22) rfl) (Up.fr u23) rfl), (Or.inr ⟨by omega, ((u23.2 44 2 (by omega)).trans ((u22.2 44 2 (by omega)).trans u21.1)), ((u23.2 0 12 (by omega)).trans ((u22.2 0 12 (by omega)).trans ((u21.2 0 12 (by omega)).trans ((fr20 0 12 rfl).trans ((u17.2 0 12 (by omega)).trans ((u5.2 0 12 (by omega)).trans ((u3.2 0 12 (by omega)).trans (fr2 0 12 rfl)))))))), (v19p.2.2).of (fun q => ((u23.2 42 _ (by omega)).trans ((u22.2 42 _ (by omega)).trans (u21.2 42 _ (by omega))))) (fun q => ((u23.2 (t + 10) _ (by omega)).trans ((u22.2 (t + 10) _ (by omega)).trans ((u21.2 (t + 10) _ (by omega)).trans (fr20 (t + 10) _ (by rcases ht with rfl | rfl <;> rfl)))))) (((u23.2 t 1 (by omega)).trans ((u22.2 t 1 (by omega)).trans ((u21.2 t 1 (by omega)).trans (fr20 t 1 (by rcases ht with rfl | rfl <;> rfl))))))⟩)⟩
    · refine s_aload_n kx_138_71 rfl ?_
      refine s_iconst (v := 1) kx_138_72 (by decide) ?_
      refine s_callV2 (k := 0) (s1 := 2) (s2 := 0) (as := [(0, 1)]) (rest := []) kx_138_73 kp_138_81 (Or.inl rfl) rfl (tk_0 hT2) ki_165 kcl_165 rfl rfl (by decide) (m_165 (d := d + 86) (kind := 1) hT2 hI17) (kW (fun v24 M25 hI25 fr25 v24p => ?_))
      have hFm25 := hFm17.call fr25 rfl
      exact s_iret kx_138_76 (Or.inl kq_138) ⟨_, _, _, rfl, rfl, hT2, hI25, hFm25, (Gm.fr (Gm.fr (Gm.fr (Gm.fr hG2 (Up.fr u3) rfl) (Up.fr u5) rfl) (Up.fr u17) rfl) fr25 rfl), (Or.inl ⟨by omega, fun f => ((fr25 42 _ rfl).trans ((u17.2 42 _ (by omega)).trans ((u5.2 42 _ (by omega)).trans ((u3.2 42 _ (by omega)).trans (fr2 42 _ rfl))))), fun f => ((fr25 44 _ rfl).trans ((u17.2 44 _ (by omega)).trans ((u5.2 44 _ (by omega)).trans ((u3.2 44 _ (by omega)).trans (fr2 44 _ rfl))))), fun f => ((fr25 45 _ rfl).trans ((u17.2 45 _ (by omega)).trans ((u5.2 45 _ (by omega)).trans ((u3.2 45 _ (by omega)).trans (fr2 45 _ rfl))))), ((fr25 0 12 rfl).trans ((u17.2 0 12 (by omega)).trans ((u5.2 0 12 (by omega)).trans ((u3.2 0 12 (by omega)).trans (fr2 0 12 rfl)))))⟩)⟩
def gR_225_l2 : List (Nat × Nat) := [(92, 99999), (93, 99999), (94, 99999), (95, 99999), (96, 99999)]
def gR_225_m : List (Nat × Nat) := [(63, 59), (63, 68), (63, 70), (92, 99999), (93, 99999), (94, 99999), (95, 99999), (96, 99999), (97, 99999)]
theorem g_225 {xs : Nat → Int} {Ln d : Nat} {T : List cK} {M : cM} (hT : TT T) (hI : Rng M) : cC k_P xs Ln (d + 0) 225 [rf 63] (T, M) (qV T M gR_225_m (fun M1 => TRr M 8 M1 ∧ M1 63 59 = 0 ∧ M1 97 0 = 0)) := by
  show cP k_P xs Ln (d + 0) 225 0 [(0, rf 63)] [] (T, M) _
  have hFm : Fr gR_225_m M M := Fr.refl
  refine s_iconst (v := 0) kx_225_0 (by decide) ?_
  refine s_istore_n kx_225_1 km_225_1 rfl ?_
  have key3 : ∀ n4 : Nat, ∀ (x1_1 : Int), ∀ M2 : cM, Rng M2 → Fr gR_225_m M M2 → Fr gR_225_l2 M M2 → (0 ≤ x1_1) → (x1_1 ≤ 8) → (TRr M x1_1 M2) → (2147483647 - x1_1).toNat < n4 → cP k_P xs Ln (d + 0) 225 2 [(0, rf 63), (1, (0, x1_1))] [] (T, M2) (qV T M gR_225_m (fun M1 => TRr M 8 M1 ∧ M1 63 59 = 0 ∧ M1 97 0 = 0)) := by
    intro n4
    induction n4 with
    | zero => intro x1_1 M2 hI2 hFm2 fl2 i5 i6 i7 hm8; exact absurd hm8 (Nat.not_lt_zero _)
    | succ n4 ih9 =>
      intro x1_1 M2 hI2 hFm2 fl2 i5 i6 i7 hm8
      have hq0 : True := trivial
      refine s_iload_n kx_225_2 rfl ?_
      refine s_bipush (v := 8) kx_225_3 (by decide) ?_
      refine s_icmp_ge (t := 75) kx_225_5 (by decide) (fun hc10 => ?_) (fun hc10 => ?_)
      · refine s_aload_n kx_225_75 rfl ?_
        refine r_getR (k := 63) (f := 53) (k2 := 97) kx_225_76 kp_225_174 (tk_63 hT) kf_12_53 (by decide) (rq_63_53 hI2) ?_
        refine s_iconst (v := 0) kx_225_79 (by decide) ?_
        refine s_iconst (v := 0) kx_225_80 (by decide) ?_
        refine r_ast (k := 97) kx_225_81 (tk_97 hT) ⟨by decide, by decide⟩ hI2 (ru_97 (by omega) (by omega)) (fun M11 hI11 u11 => ?_)
        have hFm11 := hFm2.up u11 rfl
        refine s_aload_n kx_225_82 rfl ?_
        refine s_iconst (v := 0) kx_225_83 (by decide) ?_
        refine r_put (k := 63) (f := 59) kx_225_84 kp_225_192 (tk_63 hT) kf_12_59 rfl (by decide) (by decide) hI11 (ru_63_59 (by omega) (by omega)) (fun M12 hI12 u12 => ?_)
        have hFm12 := hFm11.up u12 rfl
        refine s_aload_n kx_225_87 rfl ?_
        refine s_iconst (v := 0) kx_225_88 (by decide) ?_
        refine r_put (k := 63) (f := 70) kx_225_89 kp_225_225 (tk_63 hT) kf_12_70 rfl (by decide) (by decide) hI12 (ru_63_70 (by omega) (by omega)) (fun M13 hI13 u13 => ?_)
        have hFm13 := hFm12.up u13 rfl
        refine s_aload_n kx_225_92 rfl ?_
        refine s_iconst (v := 0) kx_225_93 (by decide) ?_
        refine r_put (k := 63) (f := 68) kx_225_94 kp_225_219 (tk_63 hT) kf_12_68 rfl (by decide) (by decide) hI13 (ru_63_68 (by omega) (by omega)) (fun M14 hI14 u14 => ?_)
        have hFm14 := hFm13.up u14 rfl
        exact s_vret kx_225_97 kq_225 ⟨_, rfl, rfl, hI14, hFm14, ⟨TRr.keep (by have h9 := i7; rw [show x1_1 = 8 by omega] at h9; exact h9) (fun c hc f => (u14.2 c f (by omega)).trans ((u13.2 c f (by omega)).trans ((u12.2 c f (by omega)).trans ((u11.2 c f (by omega)).trans (rfl))))), ((u14.2 63 59 (by omega)).trans ((u13.2 63 59 (by omega)).trans u12.1)), ((u14.2 97 _ (by omega)).trans ((u13.2 97 _ (by omega)).trans ((u12.2 97 _ (by omega)).trans u11.1)))⟩⟩
      · refine s_aload_n kx_225_8 rfl ?_
        refine r_getR (k := 63) (f := 48) (k2 := 92) kx_225_9 kp_225_159 (tk_63 hT) kf_12_48 (by decide) (rq_63_48 hI2) ?_
        refine s_iload_n kx_225_12 rfl ?_
        refine s_aload_n kx_225_13 rfl ?_
        refine r_getR (k := 63) (f := 23) (k2 := 73) kx_225_14 kp_225_81 (tk_63 hT) kf_12_23 (by decide) (rq_63_23 hI2) ?_
        refine s_bipush (v := 8) kx_225_17 (by decide) ?_
        refine s_aload_n kx_225_19 rfl ?_
        refine r_getI (k := 63) (f := 14) kx_225_20 kp_225_54 (tk_63 hT) kf_12_14 (fun _ => rfl) (rg_63_14 hI2) (fun v15 v15e v15a v15b => ?_)
        have v15z : M 63 14 = v15 := ((fl2 63 14 rfl)).symm.trans v15e
        refine r_mul kx_225_23 ⟨by omega, by omega⟩ ?_
        refine s_iload_n kx_225_24 rfl ?_
        refine r_add kx_225_25 ⟨by omega, by omega⟩ ?_
        refine r_ald (k := 73) kx_225_26 (tk_73 hT) ⟨by omega, by omega⟩ (rg_73 hI2) (fun v16 v16e v16a v16b => ?_)
        refine r_ast (k := 92) kx_225_27 (tk_92 hT) ⟨by omega, by omega⟩ hI2 (ru_92 (fun _ => by omega)) (fun M17 hI17 u17 => ?_)
        have hFm17 := hFm2.up u17 rfl
        have hFl217 := fl2.up u17 rfl
        refine s_aload_n kx_225_28 rfl ?_
        refine r_getR (k := 63) (f := 49) (k2 := 93) kx_225_29 kp_225_162 (tk_63 hT) kf_12_49 (by decide) (rq_63_49 hI17) ?_
        refine s_iload_n kx_225_32 rfl ?_
        refine s_aload_n kx_225_33 rfl ?_
        refine r_getR (k := 63) (f := 23) (k2 := 73) kx_225_34 kp_225_81 (tk_63 hT) kf_12_23 (by decide) (rq_63_23 hI17) ?_
        refine s_bipush (v := 8) kx_225_37 (by decide) ?_
        refine s_aload_n kx_225_39 rfl ?_
        refine r_getK (k := 63) (f := 14) kx_225_40 kp_225_54 (tk_63 hT) kf_12_14 (fun _ => rfl) ((u17.2 63 14 (by omega)).trans v15e) ?_
        refine r_mul kx_225_43 ⟨by omega, by omega⟩ ?_
        refine s_iload_n kx_225_44 rfl ?_
        refine r_add kx_225_45 ⟨by omega, by omega⟩ ?_
        refine r_aldK (k := 73) kx_225_46 (tk_73 hT) ⟨by omega, by omega⟩ ((u17.2 73 _ (by omega)).trans v16e) ?_
        refine r_ast (k := 93) kx_225_47 (tk_93 hT) ⟨by omega, by omega⟩ hI17 (ru_93 (fun _ => by omega)) (fun M18 hI18 u18 => ?_)
        have hFm18 := hFm17.up u18 rfl
        have hFl218 := hFl217.up u18 rfl
        refine s_aload_n kx_225_48 rfl ?_
        refine r_getR (k := 63) (f := 50) (k2 := 94) kx_225_49 kp_225_165 (tk_63 hT) kf_12_50 (by decide) (rq_63_50 hI18) ?_
        refine s_iload_n kx_225_52 rfl ?_
        refine s_iconst (v := 0) kx_225_53 (by decide) ?_
        refine r_ast (k := 94) kx_225_54 (tk_94 hT) ⟨by omega, by omega⟩ hI18 ru_94 (fun M19 hI19 u19 => ?_)
        have hFm19 := hFm18.up u19 rfl
        have hFl219 := hFl218.up u19 rfl
        refine s_aload_n kx_225_55 rfl ?_
        refine r_getR (k := 63) (f := 51) (k2 := 95) kx_225_56 kp_225_168 (tk_63 hT) kf_12_51 (by decide) (rq_63_51 hI19) ?_
        refine s_iload_n kx_225_59 rfl ?_
        refine s_iconst (v := 0) kx_225_60 (by decide) ?_
        refine r_ast (k := 95) kx_225_61 (tk_95 hT) ⟨by omega, by omega⟩ hI19 ru_95 (fun M20 hI20 u20 => ?_)
        have hFm20 := hFm19.up u20 rfl
        have hFl220 := hFl219.up u20 rfl
        refine s_aload_n kx_225_62 rfl ?_
        refine r_getR (k := 63) (f := 52) (k2 := 96) kx_225_63 kp_225_171 (tk_63 hT) kf_12_52 (by decide) (rq_63_52 hI20) ?_
        refine s_iload_n kx_225_66 rfl ?_
        refine s_iconst (v := 0) kx_225_67 (by decide) ?_
        refine r_ast (k := 96) kx_225_68 (tk_96 hT) ⟨by omega, by omega⟩ hI20 ru_96 (fun M21 hI21 u21 => ?_)
        have hFm21 := hFm20.up u21 rfl
        have hFl221 := hFl220.up u21 rfl
        refine r_iinc kx_225_69 rfl km_225_1 (by decide) ⟨by omega, by omega⟩ rfl ?_
        refine s_goto (t := 2) kx_225_72 (by decide) ?_
        have hb0 : M 63 14 = v15 := (((u21.2 63 14 (by omega)).trans ((u20.2 63 14 (by omega)).trans ((u19.2 63 14 (by omega)).trans ((u18.2 63 14 (by omega)).trans ((u17.2 63 14 (by omega)).trans (fl2 63 14 rfl))))))).symm.trans ((u21.2 63 14 (by omega)).trans ((u20.2 63 14 (by omega)).trans ((u19.2 63 14 (by omega)).trans ((u18.2 63 14 (by omega)).trans ((u17.2 63 14 (by omega)).trans v15e))))); have hbv : v16 = M 73 (8 * M 63 14 + x1_1).toNat := by rw [hb0]; exact ((((fl2 73 _ rfl)).symm.trans v16e)).symm
        exact cP.wk (lS1 rfl (lS1 rfl lS0)) (ih9 (x1_1 + 1) M21 hI21 hFm21 hFl221 (by omega) (by omega) (TRr.nx i7 (by omega) (((u21.2 92 _ (by omega)).trans ((u20.2 92 _ (by omega)).trans ((u19.2 92 _ (by omega)).trans ((u18.2 92 _ (by omega)).trans (u17.1))))).trans hbv) (((u21.2 93 _ (by omega)).trans ((u20.2 93 _ (by omega)).trans ((u19.2 93 _ (by omega)).trans (u18.1)))).trans hbv) ((u21.2 94 _ (by omega)).trans ((u20.2 94 _ (by omega)).trans (u19.1))) ((u21.2 95 _ (by omega)).trans (u20.1)) (fun c hc f hf => (u21.2 c f (by omega)).trans ((u20.2 c f (by omega)).trans ((u19.2 c f (by omega)).trans ((u18.2 c f (by omega)).trans ((u17.2 c f (by omega)).trans (rfl))))))) (by omega))
  exact cP.wk (lS1 rfl (lS1 rfl lS0)) (key3 _ 0 M hI hFm Fr.refl (by omega) (by omega) (fun q hq => absurd hq (by omega)) (Nat.lt_succ_self _))
def gT_216_l109 : List (Nat × Nat) := [(63, 10), (63, 13), (63, 3), (63, 35), (63, 4), (63, 42), (63, 43), (63, 45), (63, 46), (63, 5), (63, 6), (63, 7), (63, 8), (63, 9), (65, 99999), (66, 99999), (67, 99999), (68, 99999), (69, 99999), (70, 99999), (71, 99999), (72, 99999), (73, 99999), (74, 99999), (75, 99999), (76, 99999), (77, 99999), (78, 99999), (79, 99999), (80, 99999), (81, 99999), (82, 99999), (83, 99999), (84, 99999), (85, 99999), (86, 99999), (87, 99999), (88, 99999), (89, 99999), (90, 99999)]
def gT_216_m : List (Nat × Nat) := [(63, 1), (63, 10), (63, 11), (63, 12), (63, 13), (63, 14), (63, 2), (63, 3), (63, 35), (63, 36), (63, 4), (63, 42), (63, 43), (63, 45), (63, 46), (63, 5), (63, 59), (63, 6), (63, 68), (63, 7), (63, 70), (63, 8), (63, 9), (65, 99999), (66, 99999), (67, 99999), (68, 99999), (69, 99999), (70, 99999), (71, 99999), (72, 99999), (73, 99999), (74, 99999), (75, 99999), (76, 99999), (77, 99999), (78, 99999), (79, 99999), (80, 99999), (81, 99999), (82, 99999), (83, 99999), (84, 99999), (85, 99999), (86, 99999), (87, 99999), (88, 99999), (89, 99999), (90, 99999), (91, 99999), (92, 99999), (93, 99999), (94, 99999), (95, 99999), (96, 99999), (97, 99999)]
theorem g_216 {xs : Nat → Int} {Ln d : Nat} {T : List cK} {M : cM} (hT : TT T) (hI : Rng M) (hS : Sg M) : cC k_P xs Ln (d + 7) 216 [rf 63] (T, M) (qW T M gT_216_m 0 (fun v M1 => (M1 63 14 = M 63 14 ∧ (∀ c, c = 92 ∨ c = 93 ∨ c = 94 ∨ c = 95 ∨ c = 97 ∨ c = 98 ∨ c = 99 ∨ c = 100 ∨ c = 101 → ∀ f, M1 c f = M c f) ∧ M1 63 58 = M 63 58 ∧ M1 63 59 = M 63 59 ∧ M1 63 60 = M 63 60) ∨ (M1 63 14 = 1 - M 63 14 ∧ TRr M1 8 M1 ∧ M1 63 59 = 0 ∧ M1 63 60 = M 63 60 ∧ M1 97 0 = 0))) := by
  show cP k_P xs Ln (d + 7) 216 0 [(0, rf 63)] [] (T, M) _
  have hFm : Fr gT_216_m M M := Fr.refl
  have hb14 := rg_63_14 hI
  refine s_aload_n kx_216_0 rfl ?_
  refine s_aload_n kx_216_1 rfl ?_
  refine r_getI (k := 63) (f := 1) kx_216_2 kp_216_13 (tk_63 hT) kf_12_1 (fun _ => rfl) (rg_63_1 hI) (fun v1 v1e v1a v1b => ?_)
  refine r_put (k := 63) (f := 2) kx_216_5 kp_216_17 (tk_63 hT) kf_12_2 rfl (by decide) (by decide) hI (ru_63_2 (by omega) (by omega)) (fun M2 hI2 u2 => ?_)
  have hFm2 := hFm.up u2 rfl
  have tr3 := (u2.2 63 3 (by omega))
  have tr4 := (u2.2 63 4 (by omega))
  have tr5 := (u2.2 63 5 (by omega))
  have tr6 := (u2.2 63 9 (by omega))
  have tr7 := (u2.2 63 35 (by omega))
  have tr8 := (u2.2 63 36 (by omega))
  have tr9 := (u2.2 63 14 (by omega))
  refine s_aload_n kx_216_8 rfl ?_
  refine s_iconst (v := 0) kx_216_9 (by decide) ?_
  refine r_put (k := 63) (f := 1) kx_216_10 kp_216_13 (tk_63 hT) kf_12_1 rfl (by decide) (by decide) hI2 (ru_63_1 (by omega) (by omega)) (fun M10 hI10 u10 => ?_)
  have hFm10 := hFm2.up u10 rfl
  have tr11 := (u10.2 63 3 (by omega))
  have tr12 := (u10.2 63 4 (by omega))
  have tr13 := (u10.2 63 5 (by omega))
  have tr14 := (u10.2 63 9 (by omega))
  have tr15 := (u10.2 63 35 (by omega))
  have tr16 := (u10.2 63 36 (by omega))
  have tr17 := (u10.2 63 14 (by omega))
  refine s_aload_n kx_216_13 rfl ?_
  refine s_iconst (v := 0) kx_216_14 (by decide) ?_
  refine r_put (k := 63) (f := 5) kx_216_15 kp_216_26 (tk_63 hT) kf_12_5 rfl (by decide) (by decide) hI10 (ru_63_5 (by omega) (by omega)) (fun M18 hI18 u18 => ?_)
  have hFm18 := hFm10.up u18 rfl
  have tr19 := (u18.2 63 3 (by omega))
  have tr20 := (u18.2 63 4 (by omega))
  have tr21 := u18.1
  have tr22 := (u18.2 63 9 (by omega))
  have tr23 := (u18.2 63 35 (by omega))
  have tr24 := (u18.2 63 36 (by omega))
  have tr25 := (u18.2 63 14 (by omega))
  refine s_aload_n kx_216_18 rfl ?_
  refine s_iconst (v := 0) kx_216_19 (by decide) ?_
  refine r_put (k := 63) (f := 9) kx_216_20 kp_216_39 (tk_63 hT) kf_12_9 rfl (by decide) (by decide) hI18 (ru_63_9 (by omega) (by omega)) (fun M26 hI26 u26 => ?_)
  have hFm26 := hFm18.up u26 rfl
  have tr27 := (u26.2 63 3 (by omega))
  have tr28 := (u26.2 63 4 (by omega))
  have tr29 := (u26.2 63 5 (by omega))
  have tr30 := u26.1
  have tr31 := (u26.2 63 35 (by omega))
  have tr32 := (u26.2 63 36 (by omega))
  have tr33 := (u26.2 63 14 (by omega))
  refine s_aload_n kx_216_23 rfl ?_
  refine s_iconst (v := (-1)) kx_216_24 (by decide) ?_
  refine r_put (k := 63) (f := 10) kx_216_25 kp_216_42 (tk_63 hT) kf_12_10 rfl (by decide) (by decide) hI26 ru_63_10 (fun M34 hI34 u34 => ?_)
  have hFm34 := hFm26.up u34 rfl
  have tr35 := (u34.2 63 3 (by omega))
  have tr36 := (u34.2 63 4 (by omega))
  have tr37 := (u34.2 63 5 (by omega))
  have tr38 := (u34.2 63 9 (by omega))
  have tr39 := (u34.2 63 35 (by omega))
  have tr40 := (u34.2 63 36 (by omega))
  have tr41 := (u34.2 63 14 (by omega))
  refine s_aload_n kx_216_28 rfl ?_
  refine s_iconst (v := 1) kx_216_29 (by decide) ?_
  refine s_aload_n kx_216_30 rfl ?_
  refine r_getI (k := 63) (f := 14) kx_216_31 kp_216_54 (tk_63 hT) kf_12_14 (fun _ => rfl) (rg_63_14 hI34) (fun v42 v42e v42a v42b => ?_)
  have v42z : M 63 14 = v42 := (((u34.2 63 14 (by omega)).trans ((u26.2 63 14 (by omega)).trans ((u18.2 63 14 (by omega)).trans ((u10.2 63 14 (by omega)).trans (u2.2 63 14 (by omega))))))).symm.trans v42e
  refine r_sub kx_216_34 ⟨by omega, by omega⟩ ?_
  refine r_put (k := 63) (f := 36) kx_216_35 kp_216_121 (tk_63 hT) kf_12_36 rfl (by decide) (by decide) hI34 (ru_63_36 (by omega) (by omega)) (fun M43 hI43 u43 => ?_)
  have hFm43 := hFm34.up u43 rfl
  have tr44 := (u43.2 63 3 (by omega))
  have tr45 := (u43.2 63 4 (by omega))
  have tr46 := (u43.2 63 5 (by omega))
  have tr47 := (u43.2 63 9 (by omega))
  have tr48 := (u43.2 63 35 (by omega))
  have tr49 := u43.1
  have tr50 := (u43.2 63 14 (by omega))
  refine s_aload_n kx_216_38 rfl ?_
  refine r_getR (k := 63) (f := 15) (k2 := 65) kx_216_39 kp_216_57 (tk_63 hT) kf_12_15 (by decide) (rq_63_15 hI43) ?_
  refine s_aload_n kx_216_42 rfl ?_
  refine r_getK (k := 63) (f := 36) kx_216_43 kp_216_121 (tk_63 hT) kf_12_36 (fun _ => rfl) u43.1 ?_
  refine s_iconst (v := 0) kx_216_46 (by decide) ?_
  refine r_ast (k := 65) kx_216_47 (tk_65 hT) ⟨by omega, by omega⟩ hI43 (ru_65 (by omega) (by omega)) (fun M51 hI51 u51 => ?_)
  have hFm51 := hFm43.up u51 rfl
  have tr52 := (u51.2 63 3 (by omega))
  have tr53 := (u51.2 63 4 (by omega))
  have tr54 := (u51.2 63 5 (by omega))
  have tr55 := (u51.2 63 9 (by omega))
  have tr56 := (u51.2 63 35 (by omega))
  have tr57 := (u51.2 63 36 (by omega))
  have tr58 := (u51.2 63 14 (by omega))
  refine s_aload_n kx_216_48 rfl ?_
  refine r_getR (k := 63) (f := 19) (k2 := 69) kx_216_49 kp_216_69 (tk_63 hT) kf_12_19 (by decide) (rq_63_19 hI51) ?_
  refine s_aload_n kx_216_52 rfl ?_
  refine r_getK (k := 63) (f := 36) kx_216_53 kp_216_121 (tk_63 hT) kf_12_36 (fun _ => rfl) ((u51.2 63 36 (by omega)).trans u43.1) ?_
  refine s_iconst (v := 0) kx_216_56 (by decide) ?_
  refine r_ast (k := 69) kx_216_57 (tk_69 hT) ⟨by omega, by omega⟩ hI51 (ru_69 (by omega) (by omega)) (fun M59 hI59 u59 => ?_)
  have hFm59 := hFm51.up u59 rfl
  have tr60 := (u59.2 63 3 (by omega))
  have tr61 := (u59.2 63 4 (by omega))
  have tr62 := (u59.2 63 5 (by omega))
  have tr63 := (u59.2 63 9 (by omega))
  have tr64 := (u59.2 63 35 (by omega))
  have tr65 := (u59.2 63 36 (by omega))
  have tr66 := (u59.2 63 14 (by omega))
  refine s_aload_n kx_216_58 rfl ?_
  refine r_getR (k := 63) (f := 29) (k2 := 79) kx_216_59 kp_216_99 (tk_63 hT) kf_12_29 (by decide) (rq_63_29 hI59) ?_
  refine s_aload_n kx_216_62 rfl ?_
  refine r_getK (k := 63) (f := 36) kx_216_63 kp_216_121 (tk_63 hT) kf_12_36 (fun _ => rfl) ((u59.2 63 36 (by omega)).trans ((u51.2 63 36 (by omega)).trans u43.1)) ?_
  refine s_iconst (v := 0) kx_216_66 (by decide) ?_
  refine r_ast (k := 79) kx_216_67 (tk_79 hT) ⟨by omega, by omega⟩ hI59 ru_79 (fun M67 hI67 u67 => ?_)
  have hFm67 := hFm59.up u67 rfl
  have tr68 := (u67.2 63 3 (by omega))
  have tr69 := (u67.2 63 4 (by omega))
  have tr70 := (u67.2 63 5 (by omega))
  have tr71 := (u67.2 63 9 (by omega))
  have tr72 := (u67.2 63 35 (by omega))
  have tr73 := (u67.2 63 36 (by omega))
  have tr74 := (u67.2 63 14 (by omega))
  refine s_aload_n kx_216_68 rfl ?_
  refine r_getR (k := 63) (f := 30) (k2 := 80) kx_216_69 kp_216_102 (tk_63 hT) kf_12_30 (by decide) (rq_63_30 hI67) ?_
  refine s_aload_n kx_216_72 rfl ?_
  refine r_getK (k := 63) (f := 36) kx_216_73 kp_216_121 (tk_63 hT) kf_12_36 (fun _ => rfl) ((u67.2 63 36 (by omega)).trans ((u59.2 63 36 (by omega)).trans ((u51.2 63 36 (by omega)).trans u43.1))) ?_
  refine s_iconst (v := (-1)) kx_216_76 (by decide) ?_
  refine r_ast (k := 80) kx_216_77 (tk_80 hT) ⟨by omega, by omega⟩ hI67 ru_80 (fun M75 hI75 u75 => ?_)
  have hFm75 := hFm67.up u75 rfl
  have tr76 := (u75.2 63 3 (by omega))
  have tr77 := (u75.2 63 4 (by omega))
  have tr78 := (u75.2 63 5 (by omega))
  have tr79 := (u75.2 63 9 (by omega))
  have tr80 := (u75.2 63 35 (by omega))
  have tr81 := (u75.2 63 36 (by omega))
  have tr82 := (u75.2 63 14 (by omega))
  refine s_aload_n kx_216_78 rfl ?_
  refine r_getR (k := 63) (f := 25) (k2 := 75) kx_216_79 kp_216_87 (tk_63 hT) kf_12_25 (by decide) (rq_63_25 hI75) ?_
  refine s_aload_n kx_216_82 rfl ?_
  refine r_getK (k := 63) (f := 36) kx_216_83 kp_216_121 (tk_63 hT) kf_12_36 (fun _ => rfl) ((u75.2 63 36 (by omega)).trans ((u67.2 63 36 (by omega)).trans ((u59.2 63 36 (by omega)).trans ((u51.2 63 36 (by omega)).trans u43.1)))) ?_
  refine s_iconst (v := (-1)) kx_216_86 (by decide) ?_
  refine r_ast (k := 75) kx_216_87 (tk_75 hT) ⟨by omega, by omega⟩ hI75 (ru_75 (by omega) (by omega)) (fun M83 hI83 u83 => ?_)
  have hFm83 := hFm75.up u83 rfl
  have tr84 := (u83.2 63 3 (by omega))
  have tr85 := (u83.2 63 4 (by omega))
  have tr86 := (u83.2 63 5 (by omega))
  have tr87 := (u83.2 63 9 (by omega))
  have tr88 := (u83.2 63 35 (by omega))
  have tr89 := (u83.2 63 36 (by omega))
  have tr90 := (u83.2 63 14 (by omega))
  refine s_aload_n kx_216_88 rfl ?_
  refine r_getR (k := 63) (f := 27) (k2 := 77) kx_216_89 kp_216_93 (tk_63 hT) kf_12_27 (by decide) (rq_63_27 hI83) ?_
  refine s_aload_n kx_216_92 rfl ?_
  refine r_getK (k := 63) (f := 36) kx_216_93 kp_216_121 (tk_63 hT) kf_12_36 (fun _ => rfl) ((u83.2 63 36 (by omega)).trans ((u75.2 63 36 (by omega)).trans ((u67.2 63 36 (by omega)).trans ((u59.2 63 36 (by omega)).trans ((u51.2 63 36 (by omega)).trans u43.1))))) ?_
  refine s_iconst (v := (-1)) kx_216_96 (by decide) ?_
  refine r_ast (k := 77) kx_216_97 (tk_77 hT) ⟨by omega, by omega⟩ hI83 (ru_77 (by omega) (by omega)) (fun M91 hI91 u91 => ?_)
  have hFm91 := hFm83.up u91 rfl
  have tr92 := (u91.2 63 3 (by omega))
  have tr93 := (u91.2 63 4 (by omega))
  have tr94 := (u91.2 63 5 (by omega))
  have tr95 := (u91.2 63 9 (by omega))
  have tr96 := (u91.2 63 35 (by omega))
  have tr97 := (u91.2 63 36 (by omega))
  have tr98 := (u91.2 63 14 (by omega))
  refine s_aload_n kx_216_98 rfl ?_
  refine s_iconst (v := 0) kx_216_99 (by decide) ?_
  refine r_put (k := 63) (f := 35) kx_216_100 kp_216_118 (tk_63 hT) kf_12_35 rfl (by decide) (by decide) hI91 (ru_63_35 (by omega) (by omega)) (fun M99 hI99 u99 => ?_)
  have hFm99 := hFm91.up u99 rfl
  have tr100 := (u99.2 63 3 (by omega))
  have tr101 := (u99.2 63 4 (by omega))
  have tr102 := (u99.2 63 5 (by omega))
  have tr103 := (u99.2 63 9 (by omega))
  have tr104 := u99.1
  have tr105 := (u99.2 63 36 (by omega))
  have tr106 := (u99.2 63 14 (by omega))
  refine s_iconst (v := 0) kx_216_103 (by decide) ?_
  refine s_istore_n kx_216_104 km_216_1 rfl ?_
  have hts : TSg M99 := ⟨Or.inl (by rw [((u99.2 63 36 (by omega)).trans ((u91.2 63 36 (by omega)).trans ((u83.2 63 36 (by omega)).trans ((u75.2 63 36 (by omega)).trans ((u67.2 63 36 (by omega)).trans ((u59.2 63 36 (by omega)).trans ((u51.2 63 36 (by omega)).trans u43.1)))))))]; exact ((u99.2 75 _ (by omega)).trans ((u91.2 75 _ (by omega)).trans u83.1))), Or.inl (by rw [((u99.2 63 36 (by omega)).trans ((u91.2 63 36 (by omega)).trans ((u83.2 63 36 (by omega)).trans ((u75.2 63 36 (by omega)).trans ((u67.2 63 36 (by omega)).trans ((u59.2 63 36 (by omega)).trans ((u51.2 63 36 (by omega)).trans u43.1)))))))]; exact ((u99.2 77 _ (by omega)).trans u91.1))⟩
  have hk107 : M99 63 35 = 0 := u99.1
  have hk108 : M99 63 36 = (1 - v42) := ((u99.2 63 36 (by omega)).trans ((u91.2 63 36 (by omega)).trans ((u83.2 63 36 (by omega)).trans ((u75.2 63 36 (by omega)).trans ((u67.2 63 36 (by omega)).trans ((u59.2 63 36 (by omega)).trans ((u51.2 63 36 (by omega)).trans u43.1)))))))
  have hk109 : M99 63 9 = 0 := ((u99.2 63 9 (by omega)).trans ((u91.2 63 9 (by omega)).trans ((u83.2 63 9 (by omega)).trans ((u75.2 63 9 (by omega)).trans ((u67.2 63 9 (by omega)).trans ((u59.2 63 9 (by omega)).trans ((u51.2 63 9 (by omega)).trans ((u43.2 63 9 (by omega)).trans ((u34.2 63 9 (by omega)).trans u26.1)))))))))
  refine s_aload_n kx_216_105 rfl ?_
  refine s_callV2 (k := 63) (s1 := 1) (s2 := 0) (as := []) (rest := []) kx_216_106 kp_216_286 (Or.inl rfl) rfl (tk_63 hT) ki_180 kcl_180 rfl rfl (by decide) (m_180 (d := d + 5) hT hI99) (kV (fun M111 hI111 fr111 v110p => ?_))
  have hFm111 := hFm99.call fr111 rfl
  have tr112 := (fr111 63 9 rfl)
  have tr113 := (fr111 63 35 rfl)
  have tr114 := (fr111 63 36 rfl)
  have tr115 := (fr111 63 14 rfl)
  have tr116 := rg_63_9 hI111
  have tr117 := rg_63_4 hI111
  have key120 : ∀ n121 : Nat, ∀ (x1_118 : Int), ∀ M119 : cM, Rng M119 → Fr gT_216_m M M119 → Fr gT_216_l109 M111 M119 → ((-2147483648) ≤ x1_118) → (x1_118 ≤ 2147483647) → (LXp M119) → (OB M M119) → (M119 63 36 = 1 - M 63 14) → (1 ≤ M119 63 9 ∨ (TSg M119 ∧ M119 63 35 ≤ M119 63 4)) → (2 * (1600 - M119 63 4) + 6 - M119 63 9).toNat < n121 → cP k_P xs Ln (d + 7) 216 109 [(0, rf 63), (1, (0, x1_118))] [] (T, M119) (qW T M gT_216_m 0 (fun v M1 => (M1 63 14 = M 63 14 ∧ (∀ c, c = 92 ∨ c = 93 ∨ c = 94 ∨ c = 95 ∨ c = 97 ∨ c = 98 ∨ c = 99 ∨ c = 100 ∨ c = 101 → ∀ f, M1 c f = M c f) ∧ M1 63 58 = M 63 58 ∧ M1 63 59 = M 63 59 ∧ M1 63 60 = M 63 60) ∨ (M1 63 14 = 1 - M 63 14 ∧ TRr M1 8 M1 ∧ M1 63 59 = 0 ∧ M1 63 60 = M 63 60 ∧ M1 97 0 = 0))) := by
    intro n121
    induction n121 with
    | zero => intro x1_118 M119 hI119 hFm119 fl119 i122 i123 i124 i125 i126 i127 hm128; exact absurd hm128 (Nat.not_lt_zero _)
    | succ n121 ih129 =>
      intro x1_118 M119 hI119 hFm119 fl119 i122 i123 i124 i125 i126 i127 hm128
      have tr130 := rg_63_9 hI119
      have tr131 := rg_63_4 hI119
      have tr132 : M119 63 14 = M 63 14 := ((fl119 63 14 rfl).trans ((fr111 63 14 rfl).trans ((u99.2 63 14 (by omega)).trans ((u91.2 63 14 (by omega)).trans ((u83.2 63 14 (by omega)).trans ((u75.2 63 14 (by omega)).trans ((u67.2 63 14 (by omega)).trans ((u59.2 63 14 (by omega)).trans ((u51.2 63 14 (by omega)).trans ((u43.2 63 14 (by omega)).trans ((u34.2 63 14 (by omega)).trans ((u26.2 63 14 (by omega)).trans ((u18.2 63 14 (by omega)).trans ((u10.2 63 14 (by omega)).trans (u2.2 63 14 (by omega))))))))))))))))
      refine s_aload_n kx_216_109 rfl ?_
      refine r_getI (k := 63) (f := 9) kx_216_110 kp_216_39 (tk_63 hT) kf_12_9 (fun _ => rfl) (rg_63_9 hI119) (fun v133 v133e v133a v133b => ?_)
      refine s_if_ne (t := 138) kx_216_113 (by decide) (fun hc134 => ?_) (fun hc134 => ?_)
      · refine s_aload_n kx_216_138 rfl ?_
        refine s_aload_n kx_216_139 rfl ?_
        refine r_getK (k := 63) (f := 9) kx_216_140 kp_216_39 (tk_63 hT) kf_12_9 (fun _ => rfl) v133e ?_
        refine r_put (k := 63) (f := 11) kx_216_143 kp_216_45 (tk_63 hT) kf_12_11 rfl (by decide) (by decide) hI119 ru_63_11 (fun M135 hI135 u135 => ?_)
        have hFm135 := hFm119.up u135 rfl
        have tr136 := (u135.2 63 3 (by omega))
        have tr137 := (u135.2 63 4 (by omega))
        have tr138 := (u135.2 63 5 (by omega))
        have tr139 := (u135.2 63 9 (by omega))
        have tr140 := (u135.2 63 35 (by omega))
        have tr141 := (u135.2 63 36 (by omega))
        have tr142 := (u135.2 63 14 (by omega))
        refine s_aload_n kx_216_146 rfl ?_
        refine s_aload_n kx_216_147 rfl ?_
        refine r_getU (k := 63) (f := 10) kx_216_148 kp_216_42 (tk_63 hT) kf_12_10 (fun _ => rfl) (fun v143 v143e => ?_)
        refine r_put (k := 63) (f := 12) kx_216_151 kp_216_48 (tk_63 hT) kf_12_12 rfl (by decide) (by decide) hI135 ru_63_12 (fun M144 hI144 u144 => ?_)
        have hFm144 := hFm135.up u144 rfl
        have tr145 := (u144.2 63 3 (by omega))
        have tr146 := (u144.2 63 4 (by omega))
        have tr147 := (u144.2 63 5 (by omega))
        have tr148 := (u144.2 63 9 (by omega))
        have tr149 := (u144.2 63 35 (by omega))
        have tr150 := (u144.2 63 36 (by omega))
        have tr151 := (u144.2 63 14 (by omega))
        refine s_aload_n kx_216_154 rfl ?_
        refine r_getK (k := 63) (f := 9) kx_216_155 kp_216_39 (tk_63 hT) kf_12_9 (fun _ => rfl) ((u144.2 63 9 (by omega)).trans ((u135.2 63 9 (by omega)).trans v133e)) ?_
        refine s_if_le (t := 167) kx_216_158 (by decide) (fun hc152 => absurd hc152 (by omega)) (fun hc152 => ?_)
        refine s_aload_n kx_216_161 rfl ?_
        refine s_iconst (v := 1) kx_216_162 (by decide) ?_
        refine s_callV2 (k := 63) (s1 := 2) (s2 := 0) (as := [(0, 1)]) (rest := []) kx_216_163 kp_216_255 (Or.inl rfl) rfl (tk_63 hT) ki_218 kcl_218 rfl rfl (by decide) (m_218 (d := d + 6) (kind := 1) hT hI144 (by omega)) (kW (fun v153 M154 hI154 fr154 v153p => ?_))
        have hFm154 := hFm144.call fr154 rfl
        have tr155 := (fr154 63 3 rfl)
        have tr156 := (fr154 63 4 rfl)
        have tr157 := (fr154 63 5 rfl)
        have tr158 := (fr154 63 9 rfl)
        have tr159 := (fr154 63 35 rfl)
        have tr160 := (fr154 63 36 rfl)
        have tr161 := (fr154 63 14 rfl)
        have tr162 := rg_63_9 hI154
        have tr163 := rg_63_4 hI154
        exact s_iret kx_216_166 (Or.inl kq_216) ⟨_, _, rfl, rfl, hI154, hFm154, (Or.inl ⟨((fr154 63 14 rfl).trans ((u144.2 63 14 (by omega)).trans ((u135.2 63 14 (by omega)).trans ((fl119 63 14 rfl).trans ((fr111 63 14 rfl).trans ((u99.2 63 14 (by omega)).trans ((u91.2 63 14 (by omega)).trans ((u83.2 63 14 (by omega)).trans ((u75.2 63 14 (by omega)).trans ((u67.2 63 14 (by omega)).trans ((u59.2 63 14 (by omega)).trans ((u51.2 63 14 (by omega)).trans ((u43.2 63 14 (by omega)).trans ((u34.2 63 14 (by omega)).trans ((u26.2 63 14 (by omega)).trans ((u18.2 63 14 (by omega)).trans ((u10.2 63 14 (by omega)).trans (u2.2 63 14 (by omega))))))))))))))))))), fun c hc f => (by rcases hc with rfl | rfl | rfl | rfl | rfl | rfl | rfl | rfl | rfl; exact ((fr154 92 _ rfl).trans ((u144.2 92 _ (by omega)).trans ((u135.2 92 _ (by omega)).trans ((fl119 92 _ rfl).trans ((fr111 92 _ rfl).trans ((u99.2 92 _ (by omega)).trans ((u91.2 92 _ (by omega)).trans ((u83.2 92 _ (by omega)).trans ((u75.2 92 _ (by omega)).trans ((u67.2 92 _ (by omega)).trans ((u59.2 92 _ (by omega)).trans ((u51.2 92 _ (by omega)).trans ((u43.2 92 _ (by omega)).trans ((u34.2 92 _ (by omega)).trans ((u26.2 92 _ (by omega)).trans ((u18.2 92 _ (by omega)).trans ((u10.2 92 _ (by omega)).trans (u2.2 92 _ (by omega))))))))))))))))))); exact ((fr154 93 _ rfl).trans ((u144.2 93 _ (by omega)).trans ((u135.2 93 _ (by omega)).trans ((fl119 93 _ rfl).trans ((fr111 93 _ rfl).trans ((u99.2 93 _ (by omega)).trans ((u91.2 93 _ (by omega)).trans ((u83.2 93 _ (by omega)).trans ((u75.2 93 _ (by omega)).trans ((u67.2 93 _ (by omega)).trans ((u59.2 93 _ (by omega)).trans ((u51.2 93 _ (by omega)).trans ((u43.2 93 _ (by omega)).trans ((u34.2 93 _ (by omega)).trans ((u26.2 93 _ (by omega)).trans ((u18.2 93 _ (by omega)).trans ((u10.2 93 _ (by omega)).trans (u2.2 93 _ (by omega))))))))))))))))))); exact ((fr154 94 _ rfl).trans ((u144.2 94 _ (by omega)).trans ((u135.2 94 _ (by omega)).trans ((fl119 94 _ rfl).trans ((fr111 94 _ rfl).trans ((u99.2 94 _ (by omega)).trans ((u91.2 94 _ (by omega)).trans ((u83.2 94 _ (by omega)).trans ((u75.2 94 _ (by omega)).trans ((u67.2 94 _ (by omega)).trans ((u59.2 94 _ (by omega)).trans ((u51.2 94 _ (by omega)).trans ((u43.2 94 _ (by omega)).trans ((u34.2 94 _ (by omega)).trans ((u26.2 94 _ (by omega)).trans ((u18.2 94 _ (by omega)).trans ((u10.2 94 _ (by omega)).trans (u2.2 94 _ (by omega))))))))))))))))))); exact ((fr154 95 _ rfl).trans ((u144.2 95 _ (by omega)).trans ((u135.2 95 _ (by omega)).trans ((fl119 95 _ rfl).trans ((fr111 95 _ rfl).trans ((u99.2 95 _ (by omega)).trans ((u91.2 95 _ (by omega)).trans ((u83.2 95 _ (by omega)).trans ((u75.2 95 _ (by omega)).trans ((u67.2 95 _ (by omega)).trans ((u59.2 95 _ (by omega)).trans ((u51.2 95 _ (by omega)).trans ((u43.2 95 _ (by omega)).trans ((u34.2 95 _ (by omega)).trans ((u26.2 95 _ (by omega)).trans ((u18.2 95 _ (by omega)).trans ((u10.2 95 _ (by omega)).trans (u2.2 95 _ (by omega))))))))))))))))))); exact ((fr154 97 _ rfl).trans ((u144.2 97 _ (by omega)).trans ((u135.2 97 _ (by omega)).trans ((fl119 97 _ rfl).trans ((fr111 97 _ rfl).trans ((u99.2 97 _ (by omega)).trans ((u91.2 97 _ (by omega)).trans ((u83.2 97 _ (by omega)).trans ((u75.2 97 _ (by omega)).trans ((u67.2 97 _ (by omega)).trans ((u59.2 97 _ (by omega)).trans ((u51.2 97 _ (by omega)).trans ((u43.2 97 _ (by omega)).trans ((u34.2 97 _ (by omega)).trans ((u26.2 97 _ (by omega)).trans ((u18.2 97 _ (by omega)).trans ((u10.2 97 _ (by omega)).trans (u2.2 97 _ (by omega))))))))))))))))))); exact ((fr154 98 _ rfl).trans ((u144.2 98 _ (by omega)).trans ((u135.2 98 _ (by omega)).trans ((fl119 98 _ rfl).trans ((fr111 98 _ rfl).trans ((u99.2 98 _ (by omega)).trans ((u91.2 98 _ (by omega)).trans ((u83.2 98 _ (by omega)).trans ((u75.2 98 _ (by omega)).trans ((u67.2 98 _ (by omega)).trans ((u59.2 98 _ (by omega)).trans ((u51.2 98 _ (by omega)).trans ((u43.2 98 _ (by omega)).trans ((u34.2 98 _ (by omega)).trans ((u26.2 98 _ (by omega)).trans ((u18.2 98 _ (by omega)).trans ((u10.2 98 _ (by omega)).trans (u2.2 98 _ (by omega))))))))))))))))))); exact ((fr154 99 _ rfl).trans ((u144.2 99 _ (by omega)).trans ((u135.2 99 _ (by omega)).trans ((fl119 99 _ rfl).trans ((fr111 99 _ rfl).trans ((u99.2 99 _ (by omega)).trans ((u91.2 99 _ (by omega)).trans ((u83.2 99 _ (by omega)).trans ((u75.2 99 _ (by omega)).trans ((u67.2 99 _ (by omega)).trans ((u59.2 99 _ (by omega)).trans ((u51.2 99 _ (by omega)).trans ((u43.2 99 _ (by omega)).trans ((u34.2 99 _ (by omega)).trans ((u26.2 99 _ (by omega)).trans ((u18.2 99 _ (by omega)).trans ((u10.2 99 _ (by omega)).trans (u2.2 99 _ (by omega))))))))))))))))))); exact ((fr154 100 _ rfl).trans ((u144.2 100 _ (by omega)).trans ((u135.2 100 _ (by omega)).trans ((fl119 100 _ rfl).trans ((fr111 100 _ rfl).trans ((u99.2 100 _ (by omega)).trans ((u91.2 100 _ (by omega)).trans ((u83.2 100 _ (by omega)).trans ((u75.2 100 _ (by omega)).trans ((u67.2 100 _ (by omega)).trans ((u59.2 100 _ (by omega)).trans ((u51.2 100 _ (by omega)).trans ((u43.2 100 _ (by omega)).trans ((u34.2 100 _ (by omega)).trans ((u26.2 100 _ (by omega)).trans ((u18.2 100 _ (by omega)).trans ((u10.2 100 _ (by omega)).trans (u2.2 100 _ (by omega))))))))))))))))))); exact ((fr154 101 _ rfl).trans ((u144.2 101 _ (by omega)).trans ((u135.2 101 _ (by omega)).trans ((fl119 101 _ rfl).trans ((fr111 101 _ rfl).trans ((u99.2 101 _ (by omega)).trans ((u91.2 101 _ (by omega)).trans ((u83.2 101 _ (by omega)).trans ((u75.2 101 _ (by omega)).trans ((u67.2 101 _ (by omega)).trans ((u59.2 101 _ (by omega)).trans ((u51.2 101 _ (by omega)).trans ((u43.2 101 _ (by omega)).trans ((u34.2 101 _ (by omega)).trans ((u26.2 101 _ (by omega)).trans ((u18.2 101 _ (by omega)).trans ((u10.2 101 _ (by omega)).trans (u2.2 101 _ (by omega)))))))))))))))))))), ((fr154 63 58 rfl).trans ((u144.2 63 58 (by omega)).trans ((u135.2 63 58 (by omega)).trans ((fl119 63 58 rfl).trans ((fr111 63 58 rfl).trans ((u99.2 63 58 (by omega)).trans ((u91.2 63 58 (by omega)).trans ((u83.2 63 58 (by omega)).trans ((u75.2 63 58 (by omega)).trans ((u67.2 63 58 (by omega)).trans ((u59.2 63 58 (by omega)).trans ((u51.2 63 58 (by omega)).trans ((u43.2 63 58 (by omega)).trans ((u34.2 63 58 (by omega)).trans ((u26.2 63 58 (by omega)).trans ((u18.2 63 58 (by omega)).trans ((u10.2 63 58 (by omega)).trans (u2.2 63 58 (by omega))))))))))))))))))), ((fr154 63 59 rfl).trans ((u144.2 63 59 (by omega)).trans ((u135.2 63 59 (by omega)).trans ((fl119 63 59 rfl).trans ((fr111 63 59 rfl).trans ((u99.2 63 59 (by omega)).trans ((u91.2 63 59 (by omega)).trans ((u83.2 63 59 (by omega)).trans ((u75.2 63 59 (by omega)).trans ((u67.2 63 59 (by omega)).trans ((u59.2 63 59 (by omega)).trans ((u51.2 63 59 (by omega)).trans ((u43.2 63 59 (by omega)).trans ((u34.2 63 59 (by omega)).trans ((u26.2 63 59 (by omega)).trans ((u18.2 63 59 (by omega)).trans ((u10.2 63 59 (by omega)).trans (u2.2 63 59 (by omega))))))))))))))))))), ((fr154 63 60 rfl).trans ((u144.2 63 60 (by omega)).trans ((u135.2 63 60 (by omega)).trans ((fl119 63 60 rfl).trans ((fr111 63 60 rfl).trans ((u99.2 63 60 (by omega)).trans ((u91.2 63 60 (by omega)).trans ((u83.2 63 60 (by omega)).trans ((u75.2 63 60 (by omega)).trans ((u67.2 63 60 (by omega)).trans ((u59.2 63 60 (by omega)).trans ((u51.2 63 60 (by omega)).trans ((u43.2 63 60 (by omega)).trans ((u34.2 63 60 (by omega)).trans ((u26.2 63 60 (by omega)).trans ((u18.2 63 60 (by omega)).trans ((u10.2 63 60 (by omega)).trans (u2.2 63 60 (by omega)))))))))))))))))))⟩)⟩
      · refine s_aload_n kx_216_116 rfl ?_
        refine r_getI (k := 63) (f := 3) kx_216_117 kp_216_20 (tk_63 hT) kf_12_3 (fun _ => rfl) (rg_63_3 hI119) (fun v164 v164e v164a v164b => ?_)
        refine s_if_eq (t := 138) kx_216_120 (by decide) (fun hc165 => ?_) (fun hc165 => ?_)
        · refine s_aload_n kx_216_138 rfl ?_
          refine s_aload_n kx_216_139 rfl ?_
          refine r_getK (k := 63) (f := 9) kx_216_140 kp_216_39 (tk_63 hT) kf_12_9 (fun _ => rfl) v133e ?_
          refine r_put (k := 63) (f := 11) kx_216_143 kp_216_45 (tk_63 hT) kf_12_11 rfl (by decide) (by decide) hI119 ru_63_11 (fun M166 hI166 u166 => ?_)
          have hFm166 := hFm119.up u166 rfl
          have tr167 := (u166.2 63 3 (by omega))
          have tr168 := (u166.2 63 4 (by omega))
          have tr169 := (u166.2 63 5 (by omega))
          have tr170 := (u166.2 63 9 (by omega))
          have tr171 := (u166.2 63 35 (by omega))
          have tr172 := (u166.2 63 36 (by omega))
          have tr173 := (u166.2 63 14 (by omega))
          refine s_aload_n kx_216_146 rfl ?_
          refine s_aload_n kx_216_147 rfl ?_
          refine r_getU (k := 63) (f := 10) kx_216_148 kp_216_42 (tk_63 hT) kf_12_10 (fun _ => rfl) (fun v174 v174e => ?_)
          refine r_put (k := 63) (f := 12) kx_216_151 kp_216_48 (tk_63 hT) kf_12_12 rfl (by decide) (by decide) hI166 ru_63_12 (fun M175 hI175 u175 => ?_)
          have hFm175 := hFm166.up u175 rfl
          have tr176 := (u175.2 63 3 (by omega))
          have tr177 := (u175.2 63 4 (by omega))
          have tr178 := (u175.2 63 5 (by omega))
          have tr179 := (u175.2 63 9 (by omega))
          have tr180 := (u175.2 63 35 (by omega))
          have tr181 := (u175.2 63 36 (by omega))
          have tr182 := (u175.2 63 14 (by omega))
          refine s_aload_n kx_216_154 rfl ?_
          refine r_getK (k := 63) (f := 9) kx_216_155 kp_216_39 (tk_63 hT) kf_12_9 (fun _ => rfl) ((u175.2 63 9 (by omega)).trans ((u166.2 63 9 (by omega)).trans v133e)) ?_
          refine s_if_le (t := 167) kx_216_158 (by decide) (fun hc183 => ?_) (fun hc183 => absurd hc183 (by omega))
          refine s_aload_n kx_216_167 rfl ?_
          refine s_aload_n kx_216_168 rfl ?_
          refine r_getK (k := 63) (f := 36) kx_216_169 kp_216_121 (tk_63 hT) kf_12_36 (fun _ => rfl) ((u175.2 63 36 (by omega)).trans ((u166.2 63 36 (by omega)).trans ((fl119 63 36 rfl).trans ((fr111 63 36 rfl).trans ((u99.2 63 36 (by omega)).trans ((u91.2 63 36 (by omega)).trans ((u83.2 63 36 (by omega)).trans ((u75.2 63 36 (by omega)).trans ((u67.2 63 36 (by omega)).trans ((u59.2 63 36 (by omega)).trans ((u51.2 63 36 (by omega)).trans u43.1))))))))))) ?_
          refine r_put (k := 63) (f := 14) kx_216_172 kp_216_54 (tk_63 hT) kf_12_14 rfl (by decide) (by decide) hI175 (ru_63_14 (by omega) (by omega)) (fun M184 hI184 u184 => ?_)
          have hFm184 := hFm175.up u184 rfl
          have tr185 := (u184.2 63 3 (by omega))
          have tr186 := (u184.2 63 4 (by omega))
          have tr187 := (u184.2 63 5 (by omega))
          have tr188 := (u184.2 63 9 (by omega))
          have tr189 := (u184.2 63 35 (by omega))
          have tr190 := (u184.2 63 36 (by omega))
          have tr191 := u184.1
          have hsg := TSg.sg (TSg.fr (TSg.fr (Or.resolve_left i127 (by omega)).1 (rg_63_36 hI119).1 (Up.fr u166) rfl) (rg_63_36 hI166).1 (Up.fr u175) rfl) (rg_63_35 hI175).2 ((u175.2 63 36 (by omega)).trans ((u166.2 63 36 (by omega)).trans ((fl119 63 36 rfl).trans ((fr111 63 36 rfl).trans ((u99.2 63 36 (by omega)).trans ((u91.2 63 36 (by omega)).trans ((u83.2 63 36 (by omega)).trans ((u75.2 63 36 (by omega)).trans ((u67.2 63 36 (by omega)).trans ((u59.2 63 36 (by omega)).trans ((u51.2 63 36 (by omega)).trans u43.1))))))))))) u184
          refine s_aload_n kx_216_175 rfl ?_
          refine s_callV2 (k := 63) (s1 := 1) (s2 := 0) (as := []) (rest := []) kx_216_176 kp_216_446 (Or.inl rfl) rfl (tk_63 hT) ki_225 kcl_225 rfl rfl (by decide) (g_225 (d := d + 6) hT hI184) (kV (fun M193 hI193 fr193 v192p => ?_))
          have hFm193 := hFm184.call fr193 rfl
          have tr194 := (fr193 63 3 rfl)
          have tr195 := (fr193 63 4 rfl)
          have tr196 := (fr193 63 5 rfl)
          have tr197 := (fr193 63 9 rfl)
          have tr198 := (fr193 63 35 rfl)
          have tr199 := (fr193 63 36 rfl)
          have tr200 := (fr193 63 14 rfl)
          have tr201 := rg_63_9 hI193
          have tr202 := rg_63_4 hI193
          refine s_iload_n kx_216_179 rfl ?_
          exact s_iret kx_216_180 (Or.inl kq_216) ⟨_, _, rfl, rfl, hI193, hFm193, (Or.inr ⟨by have h9 := ((fr193 63 14 rfl).trans u184.1); omega, (TRr.of v192p.1 (fun c hc f => (by rcases hc with rfl | rfl | rfl | rfl; exact rfl; exact rfl; exact rfl; exact rfl)) (fun f => (fr193 73 _ rfl)) ((fr193 63 14 rfl))), (rfl).trans v192p.2.1, ((fr193 63 60 rfl).trans ((u184.2 63 60 (by omega)).trans ((u175.2 63 60 (by omega)).trans ((u166.2 63 60 (by omega)).trans ((fl119 63 60 rfl).trans ((fr111 63 60 rfl).trans ((u99.2 63 60 (by omega)).trans ((u91.2 63 60 (by omega)).trans ((u83.2 63 60 (by omega)).trans ((u75.2 63 60 (by omega)).trans ((u67.2 63 60 (by omega)).trans ((u59.2 63 60 (by omega)).trans ((u51.2 63 60 (by omega)).trans ((u43.2 63 60 (by omega)).trans ((u34.2 63 60 (by omega)).trans ((u26.2 63 60 (by omega)).trans ((u18.2 63 60 (by omega)).trans ((u10.2 63 60 (by omega)).trans (u2.2 63 60 (by omega)))))))))))))))))))), (rfl).trans v192p.2.2⟩)⟩
        · have hti203 := Or.resolve_left i127 (by omega)
          have hti203b := hti203.2
          refine s_aload_n kx_216_123 rfl ?_
          refine s_callV2 (k := 63) (s1 := 1) (s2 := 0) (as := []) (rest := []) kx_216_124 kp_216_440 (Or.inl rfl) rfl (tk_63 hT) ki_214 kcl_214 rfl rfl (by decide) (m_214 (d := d) hT hI119 i124 hti203.1 (by omega)) (kV (fun M205 hI205 fr205 v204p => ?_))
          have hFm205 := hFm119.call fr205 rfl
          have hFl109205 := fl119.call fr205 rfl
          have tr206 := (fr205 63 36 rfl)
          have tr207 := (fr205 63 14 rfl)
          have tr208 := rg_63_9 hI205
          have tr209 := rg_63_4 hI205
          have hob210 := OB.ko i125 hb14 (by omega) v204p.2.2.2.2 (fr205 63 14 rfl)
          have hsl := (show _ ∨ _ from v204p.2.2.2.1)
          refine r_iincR kx_216_127 rfl km_216_1 (fun v211 v211a v211b => ?_)
          refine s_aload_n kx_216_130 rfl ?_
          refine s_iload_n kx_216_131 rfl ?_
          refine s_callV2 (k := 63) (s1 := 2) (s2 := 0) (as := [(0, v211)]) (rest := []) kx_216_132 kp_216_443 (Or.inl rfl) rfl (tk_63 hT) ki_215 kcl_215 rfl rfl (by decide) (m_215 (d := d + 3) (n := v211) hT hI205 v204p.1) (kV (fun M213 hI213 fr213 v212p => ?_))
          have hFm213 := hFm205.call fr213 rfl
          have hFl109213 := hFl109205.call fr213 rfl
          have tr214 := (fr213 63 35 rfl)
          have tr215 := (fr213 63 36 rfl)
          have tr216 := (fr213 63 14 rfl)
          have tr217 := rg_63_9 hI213
          have tr218 := rg_63_4 hI213
          have hfi := (show _ ∨ _ from v212p.2.2.2)
          refine s_goto (t := 109) kx_216_135 (by decide) ?_
          exact cP.wk (lS1 rfl (lS1 rfl lS0)) (ih129 v211 M213 hI213 hFm213 hFl109213 (by omega) (by omega) v212p.1 (OB.fr hob210 fr213 rfl) (by omega) (if h9 : 1 ≤ M213 63 9 then Or.inl h9 else Or.inr ⟨TSg.fr (Or.resolve_left hsl (by omega)).2.1 (rg_63_36 hI205).1 fr213 rfl, by omega⟩) (by omega))
  exact cP.wk (lS1 rfl (lS1 rfl lS0)) (key120 _ 0 M111 hI111 hFm111 Fr.refl (by omega) (by omega) (show LXp M111 from v110p.2) (OB.fr (OB.up (OB.up (OB.up (OB.up (OB.up (OB.up (OB.up (OB.up (OB.up (OB.up (OB.up (OB.up (OB.up (OB.refl (M := M)) u2 (by decide) (Or.inr (by decide))) u10 (by decide) (Or.inr (by decide))) u18 (by decide) (Or.inr (by decide))) u26 (by decide) (Or.inr (by decide))) u34 (by decide) (Or.inr (by decide))) u43 (by decide) (Or.inr (by decide))) u51 ⟨by decide, Or.inl (by decide)⟩ (Or.inr (by decide))) u59 ⟨by decide, Or.inl (by decide)⟩ (Or.inr (by decide))) u67 ⟨by decide, Or.inl (by decide)⟩ (Or.inr (by decide))) u75 ⟨by decide, Or.inl (by decide)⟩ (Or.inr (by decide))) u83 ⟨by decide, Or.inl (by decide)⟩ (Or.inl (by omega))) u91 ⟨by decide, Or.inl (by decide)⟩ (Or.inl (by omega))) u99 (by decide) (Or.inr (by decide))) fr111 rfl) (by omega) (Or.inr ⟨(TSg.fr hts (rg_63_36 hI99).1 fr111 rfl), by omega⟩) (Nat.lt_succ_self _))
theorem fg_138 {xs : Nat → Int} {Ln d : Nat} {T : List cK} {M : cM} (hT : TT T) (hI : Rng M) (hG : Gm T M) {t u : Nat} (ht : t = 8 ∨ t = 25) (hu : u = 8 ∨ u = 25) (h71 : M 7 1 = ((t : Nat) : Int)) (h7u : M 7 0 = ((u : Nat) : Int)) (hux : u = 8 ∧ t = 25 ∨ u = 25 ∧ t = 8) : cC k_P xs Ln (d + 87) 138 [rf 0] (T, M) (qG T M gS_138_m 0 (fun v M1 => ((M1 7 0 = ((t : Nat) : Int) ∧ M1 7 1 = ((u : Nat) : Int) ∨ M1 7 0 = ((u : Nat) : Int) ∧ M1 7 1 = ((t : Nat) : Int)) ∧ M1 1 1 = 0 ∧ TwX t u M M1 v) ∧ ((v = -1 ∧ (∀ f, M1 42 f = M 42 f) ∧ (∀ f, M1 44 f = M 44 f) ∧ (∀ f, M1 45 f = M 45 f) ∧ M1 0 12 = M 0 12) ∨ (v ≠ -1 ∧ M1 44 2 = 0 ∧ M1 0 12 = M 0 12 ∧ TDr M1 t (M1 t 1) M1)))) :=
  qG_and (f_138 (d := d) hT hI hG ht hu h71 h7u hux) (g_138 (d := d) hT hI hG ht hu h71 h7u hux)
theorem fg_216 {xs : Nat → Int} {Ln d : Nat} {T : List cK} {M : cM} (hT : TT T) (hI : Rng M) (hS : Sg M) {s : Nat → Int} {n fR NR : Int} {D0 D' : cM} (hs : M 64 = s) (hsz : M 63 1 = n) (hrd0 : RdR s n 81 D0 0 0 fR NR D') (hDC : DC D0) : cC k_P xs Ln (d + 7) 216 [rf 63] (T, M) (qW T M gS_216_m 0 (fun v M1 => (M1 63 1 = 0 ∧ Sg M1 ∧ TwY M M1 fR NR v D') ∧ ((M1 63 14 = M 63 14 ∧ (∀ c, c = 92 ∨ c = 93 ∨ c = 94 ∨ c = 95 ∨ c = 97 ∨ c = 98 ∨ c = 99 ∨ c = 100 ∨ c = 101 → ∀ f, M1 c f = M c f) ∧ M1 63 58 = M 63 58 ∧ M1 63 59 = M 63 59 ∧ M1 63 60 = M 63 60) ∨ (M1 63 14 = 1 - M 63 14 ∧ TRr M1 8 M1 ∧ M1 63 59 = 0 ∧ M1 63 60 = M 63 60 ∧ M1 97 0 = 0)))) :=
  qW_and (f_216 (d := d) hT hI hS hs hsz hrd0 hDC) (g_216 (d := d) hT hI hS)
