def gC_4_l10 : List (Nat × Nat) := [(53, 99999)]
def gC_4_m : List (Nat × Nat) := [(51, 2), (53, 99999)]
theorem g_4 {xs : Nat → Int} {Ln d : Nat} {T : List cK} {M : cM} (hT : TT T) (hI : Rng M) {t : Nat} (ht : t = 8 ∨ t = 25) (h70 : M 7 0 = ((t : Nat) : Int)) {person rows : Int} {D S : cM} (hC : CR D S t M) {s : Nat → Int} (hs : M 2 = s) {n : Int} (hE : pEt D S s person n = 1) (hT0 : pTt D S s person (n / 2).toNat M (-1) 0) (p0 : 0 ≤ person ∧ person ≤ 7) (p1 : 1 ≤ rows ∧ rows ≤ 12) (p2 : person < D 0 1) (p3 : rows = n / 2) : cC k_P xs Ln (d + 4) 4 [rf 51, rf 7, rf 1, (0, person), (0, rows)] (T, M) (qV T M gC_4_m (fun M1 => M1 51 2 = rows ∧ pTr D S s person (n / 2).toNat M1 rows)) := by
  show cP k_P xs Ln (d + 4) 4 0 [(0, rf 51), (1, rf 7), (2, rf 1), (3, (0, person)), (4, (0, rows))] [] (T, M) _
  have hFm : Fr gC_4_m M M := Fr.refl
  have hD := hC.2.1
  have hDr := hD.rg
  have hSW := hC.2.2.2.2.1
  have hE1 := pEt_1 hE
  have hvr := fun (k : Nat) (hk : k ≤ (n / 2).toNat) (c : Int) => pVb_t hD hE (rows := (n / 2).toNat) rfl k hk c
  refine s_aload_n kx_4_0 rfl ?_
  refine s_iload_n kx_4_1 rfl ?_
  refine s_callV2 (k := 7) (s1 := 2) (s2 := 0) (as := [(0, person)]) (rest := []) kx_4_2 kp_4_71 (Or.inl rfl) rfl (tk_7 hT) ki_44 kcl_44 rfl rfl (by decide) (g_44 (d := d + 3) (chair := person) hT hI ht h70 hC (by omega) (by omega)) (kF (fun v1 v1p => ?_))
  refine s_istore kx_4_5 km_4_5 rfl ?_
  refine s_iconst (v := 0) kx_4_7 (by decide) ?_
  refine s_istore kx_4_8 km_4_6 rfl ?_
  have key5 : ∀ n6 : Nat, ∀ (x5_2 x6_3 : Int), ∀ M4 : cM, Rng M4 → Fr gC_4_m M M4 → Fr gC_4_l10 M M4 → (0 ≤ x5_2) → (x5_2 ≤ 7) → (0 ≤ x6_3) → (x6_3 ≤ 12) → (x6_3 ≤ rows) → (x5_2 < D 0 0) → (CR D S t M4) → (pTt D S s person (n / 2).toNat M4 (-1) 0) → (pTr D S s person (n / 2).toNat M4 x6_3) → (x5_2 = pCc D S s person (n / 2).toNat (x6_3).toNat) → (2147483647 - x6_3).toNat < n6 → cP k_P xs Ln (d + 4) 4 10 [(0, rf 51), (1, rf 7), (2, rf 1), (3, (0, person)), (4, (0, rows)), (5, (0, x5_2)), (6, (0, x6_3))] [] (T, M4) (qV T M gC_4_m (fun M1 => M1 51 2 = rows ∧ pTr D S s person (n / 2).toNat M1 rows)) := by
    intro n6
    induction n6 with
    | zero => intro x5_2 x6_3 M4 hI4 hFm4 fl4 i7 i8 i9 i10 i11 i12 i13 i14 i15 i16 hm17; exact absurd hm17 (Nat.not_lt_zero _)
    | succ n6 ih18 =>
      intro x5_2 x6_3 M4 hI4 hFm4 fl4 i7 i8 i9 i10 i11 i12 i13 i14 i15 i16 hm17
      refine s_iload kx_4_10 rfl ?_
      refine s_iload kx_4_12 rfl ?_
      refine s_icmp_ge (t := 102) kx_4_14 (by decide) (fun hc19 => ?_) (fun hc19 => ?_)
      · refine s_aload_n kx_4_102 rfl ?_
        refine s_iload kx_4_103 rfl ?_
        refine r_put (k := 51) (f := 2) kx_4_105 kp_4_18 (tk_51 hT) kf_0_2 rfl (by decide) (by decide) hI4 (ru_51_2 (by omega) (by omega)) (fun M20 hI20 u20 => ?_)
        have hFm20 := hFm4.up u20 rfl
        exact s_vret kx_4_108 kq_4 ⟨_, rfl, rfl, hI20, hFm20, ⟨u20.1, by rw [show rows = x6_3 by omega]; exact (fun k hk => (u20.2 53 k (by omega)).trans (i15 k hk))⟩⟩
      · refine s_iload kx_4_17 rfl ?_
        refine s_bipush (v := 12) kx_4_19 (by decide) ?_
        refine s_icmp_ge (t := 102) kx_4_21 (by decide) (fun hc21 => absurd hc21 (by omega)) (fun hc21 => ?_)
        refine s_aload_n kx_4_24 rfl ?_
        refine s_aload_n kx_4_25 rfl ?_
        refine s_aload_n kx_4_26 rfl ?_
        refine s_iload_n kx_4_27 rfl ?_
        refine s_iload kx_4_28 rfl ?_
        refine s_iload kx_4_30 rfl ?_
        refine s_callV2 (k := 51) (s1 := 6) (s2 := 0) (as := [(0, x5_2), (0, x6_3), (0, person), rf 1, rf 7]) (rest := []) kx_4_32 kp_4_59 (Or.inl rfl) rfl (tk_51 hT) ki_6 kcl_6 rfl rfl (by decide) (g_6 (d := d) (person := person) (k := x6_3) (chairRoom := x5_2) hT hI4 ht ((fl4 7 0 rfl).trans h70) i13 ((funext fun i => (fl4 2 _ rfl)).trans hs) (pTt.at i14 (k := x6_3 + 1) (c := x5_2) ⟨by omega, by omega, by omega⟩ ⟨by omega, by omega⟩) (hvr (x6_3 + 1).toNat (by omega) x5_2) (by omega) (by omega) (by omega) (by omega)) (kF (fun v22 v22p => ?_))
        refine s_aload_n kx_4_35 rfl ?_
        refine r_getR (k := 51) (f := 0) (k2 := 52) kx_4_36 kp_4_9 (tk_51 hT) kf_0_0 (by decide) (rq_51_0 hI4) ?_
        refine s_iload kx_4_39 rfl ?_
        refine s_bipush (v := 8) kx_4_41 (by decide) ?_
        refine r_mul kx_4_43 ⟨by omega, by omega⟩ ?_
        refine s_iload kx_4_44 rfl ?_
        refine r_add kx_4_46 ⟨by omega, by omega⟩ ?_
        refine r_aldU (k := 52) kx_4_47 (tk_52 hT) ⟨by omega, by omega⟩ (fun v23 v23e => ?_)
        have v23c : v23 = pCd (pVb D S s person ((n / 2).toNat - (x6_3).toNat) (x6_3).toNat x5_2) := (v23e).symm.trans (pTt.at i14 (k := x6_3) (c := x5_2) ⟨by omega, by omega, by omega⟩ ⟨by omega, by omega⟩)
        have hlv := lv_iff (rows := (n / 2).toNat) hD hE rfl ⟨by omega, by omega⟩ v22p v23c
        have htw := pEt_w hD hE (k := (x6_3).toNat) (by omega)
        have hto := (pWk_r hD htw.1).2.1
        refine s_icmp_ne (t := 55) kx_4_48 (by decide) (fun hc24 => ?_) (fun hc24 => ?_)
        · refine s_iconst (v := 0) kx_4_55 (by decide) ?_
          refine s_istore kx_4_56 km_4_7 rfl ?_
          refine s_aload_n kx_4_58 rfl ?_
          refine r_getR (k := 51) (f := 1) (k2 := 53) kx_4_59 kp_4_15 (tk_51 hT) kf_0_1 (by decide) (rq_51_1 hI4) ?_
          refine s_iload kx_4_62 rfl ?_
          refine s_iload kx_4_64 rfl ?_
          refine s_if_eq (t := 73) kx_4_66 (by decide) (fun hc25 => ?_) (fun hc25 => absurd hc25 (by decide))
          refine s_iconst (v := 1) kx_4_73 (by decide) ?_
          refine r_ast (k := 53) kx_4_74 (tk_53 hT) ⟨by omega, by omega⟩ hI4 ru_53 (fun M26 hI26 u26 => ?_)
          have hFm26 := hFm4.up u26 rfl
          have hFl1026 := fl4.up u26 rfl
          refine s_iload kx_4_75 rfl ?_
          refine s_if_eq (t := 85) kx_4_77 (by decide) (fun hc27 => ?_) (fun hc27 => absurd hc27 (by decide))
          refine s_aload_n kx_4_85 rfl ?_
          refine r_getR (k := 1) (f := 0) (k2 := 2) kx_4_86 kp_4_43 (tk_1 hT) kf_8_0 (by decide) (rq_1_0 hI26) ?_
          refine s_iconst (v := 2) kx_4_89 (by decide) ?_
          refine s_iload kx_4_90 rfl ?_
          refine r_mul kx_4_92 ⟨by omega, by omega⟩ ?_
          refine r_ald (k := 2) kx_4_93 (tk_2 hT) ⟨by omega, by omega⟩ (rg_2 hI26) (fun v28 v28e v28a v28b => ?_)
          have v28r : s ((2 * x6_3)).toNat = v28 := (congrFun hs ((2 * x6_3)).toNat).symm.trans ((((u26.2 2 _ (by omega)).trans (fl4 2 _ rfl))).symm.trans v28e)
          have v28k : s (2 * (x6_3).toNat) = v28 := (congrArg s (by omega)).trans v28r
          refine s_istore kx_4_94 km_4_5 rfl ?_
          refine r_iinc kx_4_96 rfl km_4_6 (by decide) ⟨by omega, by omega⟩ rfl ?_
          refine s_goto (t := 10) kx_4_99 (by decide) ?_
          have hr29 : pTr D S s person (n / 2).toNat M26 (x6_3 + 1) := pTr.nx i15 u26 (by omega) (by omega) i16 (Or.inr ⟨fun z => by have := hlv.mpr z; omega, rfl⟩)
          exact cP.wk (lS1 rfl (lS1 rfl (lS1 rfl (lS1 rfl (lS1 rfl (lS1 rfl (lS1 rfl lS0))))))) (ih18 v28 (x6_3 + 1) M26 hI26 hFm26 hFl1026 (by omega) (by omega) (by omega) (by omega) (by omega) (by omega) (CR.up i13 u26 ht (by omega)) (pTt.of i14 (fun f => u26.2 52 f (by omega))) hr29 (pCc_S (by omega) i16 (Or.inr ⟨fun z => by have := hlv.mpr z; omega, v28k.symm⟩)) (by omega))
        · refine s_iconst (v := 1) kx_4_51 (by decide) ?_
          refine s_goto (t := 56) kx_4_52 (by decide) ?_
          refine s_istore kx_4_56 km_4_7 rfl ?_
          refine s_aload_n kx_4_58 rfl ?_
          refine r_getR (k := 51) (f := 1) (k2 := 53) kx_4_59 kp_4_15 (tk_51 hT) kf_0_1 (by decide) (rq_51_1 hI4) ?_
          refine s_iload kx_4_62 rfl ?_
          refine s_iload kx_4_64 rfl ?_
          refine s_if_eq (t := 73) kx_4_66 (by decide) (fun hc30 => absurd hc30 (by decide)) (fun hc30 => ?_)
          refine s_iconst (v := 0) kx_4_69 (by decide) ?_
          refine s_goto (t := 74) kx_4_70 (by decide) ?_
          refine r_ast (k := 53) kx_4_74 (tk_53 hT) ⟨by omega, by omega⟩ hI4 ru_53 (fun M31 hI31 u31 => ?_)
          have hFm31 := hFm4.up u31 rfl
          have hFl1031 := fl4.up u31 rfl
          refine s_iload kx_4_75 rfl ?_
          refine s_if_eq (t := 85) kx_4_77 (by decide) (fun hc32 => absurd hc32 (by decide)) (fun hc32 => ?_)
          refine s_iload kx_4_80 rfl ?_
          refine s_goto (t := 94) kx_4_82 (by decide) ?_
          refine s_istore kx_4_94 km_4_5 rfl ?_
          refine r_iinc kx_4_96 rfl km_4_6 (by decide) ⟨by omega, by omega⟩ rfl ?_
          refine s_goto (t := 10) kx_4_99 (by decide) ?_
          have hr33 : pTr D S s person (n / 2).toNat M31 (x6_3 + 1) := pTr.nx i15 u31 (by omega) (by omega) i16 (Or.inl ⟨hlv.mp (by omega), rfl⟩)
          exact cP.wk (lS1 rfl (lS1 rfl (lS1 rfl (lS1 rfl (lS1 rfl (lS1 rfl (lS1 rfl lS0))))))) (ih18 x5_2 (x6_3 + 1) M31 hI31 hFm31 hFl1031 (by omega) (by omega) (by omega) (by omega) (by omega) (by omega) (CR.up i13 u31 ht (by omega)) (pTt.of i14 (fun f => u31.2 52 f (by omega))) hr33 (pCc_S (by omega) i16 (Or.inl ⟨hlv.mp (by omega), rfl⟩)) (by omega))
  exact cP.wk (lS1 rfl (lS1 rfl (lS1 rfl (lS1 rfl (lS1 rfl (lS1 rfl (lS1 rfl lS0))))))) (key5 _ v1 0 M hI hFm Fr.refl (by omega) (by omega) (by omega) (by omega) (by omega) (by omega) hC hT0 (fun k hk => absurd hk (by omega) : pTr D S s person (n / 2).toNat M 0) (v1p.2.2.1) (Nat.lt_succ_self _))
def gC_3_l22 : List (Nat × Nat) := [(20, 99999), (23, 99999), (37, 99999), (40, 99999), (43, 99999), (52, 99999)]
def gC_3_l30 : List (Nat × Nat) := [(20, 99999), (23, 99999), (37, 99999), (40, 99999), (43, 99999), (52, 99999)]
def gC_3_m : List (Nat × Nat) := [(20, 99999), (23, 99999), (37, 99999), (40, 99999), (43, 99999), (51, 2), (52, 99999), (53, 99999)]
theorem g_3 {xs : Nat → Int} {Ln d : Nat} {T : List cK} {M : cM} (hT : TT T) (hI : Rng M) {t : Nat} (ht : t = 8 ∨ t = 25) (h70 : M 7 0 = ((t : Nat) : Int)) {person : Int} {D S : cM} (hC : CR D S t M) (hG : Gm T M) {s : Nat → Int} (hs : M 2 = s) (hE : pEt D S s person (M 1 1) = 1) (p0 : 0 ≤ person ∧ person ≤ 7) (p1 : person < D 0 1) : cC k_P xs Ln (d + 6) 3 [rf 51, rf 7, rf 1, (0, person)] (T, M) (qW T M gC_3_m 0 (fun v M1 => v = pVb D S s person (M 1 1 / 2).toNat 0 (S 1 person.toNat) ∧ M1 51 2 = (if v = -1 then 0 else M 1 1 / 2) ∧ (v ≠ -1 → pTr D S s person (M 1 1 / 2).toNat M1 (M 1 1 / 2)))) := by
  show cP k_P xs Ln (d + 6) 3 0 [(0, rf 51), (1, rf 7), (2, rf 1), (3, (0, person))] [] (T, M) _
  have hFm : Fr gC_3_m M M := Fr.refl
  have hD := hC.2.1
  have hDr := hD.rg
  have hSW := hC.2.2.2.2.1
  have hE1 := pEt_1 hE
  have hvr := fun (k : Nat) (hk : k ≤ (M 1 1 / 2).toNat) (c : Int) => pVb_t hD hE (rows := (M 1 1 / 2).toNat) rfl k hk c
  refine s_aload_n kx_3_0 rfl ?_
  refine r_getI (k := 1) (f := 1) kx_3_1 kp_3_22 (tk_1 hT) kf_8_1 (fun _ => rfl) (rg_1_1 hI) (fun v1 v1e v1a v1b => ?_)
  refine s_iconst (v := 2) kx_3_4 (by decide) ?_
  refine r_idiv kx_3_5 (by omega) (by omega) (by omega) (by omega) ?_
  refine s_istore kx_3_6 km_3_4 rfl ?_
  refine s_aload_n kx_3_8 rfl ?_
  refine r_getR (k := 51) (f := 0) (k2 := 52) kx_3_9 kp_3_9 (tk_51 hT) kf_0_0 (by decide) (rq_51_0 hI) ?_
  refine s_iconst (v := 0) kx_3_12 (by decide) ?_
  refine s_callS2 (s1 := 2) (s2 := 0) (as := [(0, 0), rf 52]) (rest := []) kx_3_13 kp_3_50 rfl kcl_301 rfl rfl (by decide) (f_fill (d := d + 5) (val := 0) hT hI (k := 52) (n := 104) (tk_52 hT) (by decide) (fun _ => ru_52)) (kV (fun M3 hI3 fr3 v2p => ?_))
  have hFm3 := hFm.call fr3 rfl
  have htt0 : pTt D S s person (M 1 1 / 2).toNat M3 ((v1 / 2) - 1) 0 := by rw [show (v1 / 2) - 1 = (((M 1 1 / 2).toNat : Nat) : Int) - 1 by omega]; exact pTt.z (fun f hf => v2p f (by omega)) (by omega) (by omega)
  refine s_iload kx_3_16 rfl ?_
  refine s_iconst (v := 1) kx_3_18 (by decide) ?_
  refine r_sub kx_3_19 ⟨by omega, by omega⟩ ?_
  refine s_istore kx_3_20 km_3_5 rfl ?_
  have key6 : ∀ n7 : Nat, ∀ (x5_4 : Int), ∀ M5 : cM, Rng M5 → Fr gC_3_m M M5 → Fr gC_3_l22 M3 M5 → ((-1) ≤ x5_4) → (x5_4 ≤ 11) → (x5_4 < (((M 1 1 / 2).toNat : Nat) : Int)) → (CR D S t M5) → (pTt D S s person (M 1 1 / 2).toNat M5 x5_4 0) → (x5_4 + 2147483648).toNat < n7 → cP k_P xs Ln (d + 6) 3 22 [(0, rf 51), (1, rf 7), (2, rf 1), (3, (0, person)), (4, (0, (v1 / 2))), (5, (0, x5_4))] [] (T, M5) (qW T M gC_3_m 0 (fun v M1 => v = pVb D S s person (M 1 1 / 2).toNat 0 (S 1 person.toNat) ∧ M1 51 2 = (if v = -1 then 0 else M 1 1 / 2) ∧ (v ≠ -1 → pTr D S s person (M 1 1 / 2).toNat M1 (M 1 1 / 2)))) := by
    intro n7
    induction n7 with
    | zero => intro x5_4 M5 hI5 hFm5 fl5 i8 i9 i10 i11 i12 hm13; exact absurd hm13 (Nat.not_lt_zero _)
    | succ n7 ih14 =>
      intro x5_4 M5 hI5 hFm5 fl5 i8 i9 i10 i11 i12 hm13
      refine s_iload kx_3_22 rfl ?_
      refine s_if_lt (t := 100) kx_3_24 (by decide) (fun hc15 => ?_) (fun hc15 => ?_)
      · refine s_aload_n kx_3_100 rfl ?_
        refine r_getR (k := 51) (f := 0) (k2 := 52) kx_3_101 kp_3_9 (tk_51 hT) kf_0_0 (by decide) (rq_51_0 hI5) ?_
        refine s_aload_n kx_3_104 rfl ?_
        refine s_iload_n kx_3_105 rfl ?_
        refine s_callV2 (k := 7) (s1 := 2) (s2 := 1) (as := [(0, person)]) (rest := [rf 52]) kx_3_106 kp_3_71 (Or.inl rfl) rfl (tk_7 hT) ki_44 kcl_44 rfl rfl (by decide) (g_44 (d := d + 5) (chair := person) hT hI5 ht ((fl5 7 0 rfl).trans ((fr3 7 0 rfl).trans h70)) i11 (by omega) (by omega)) (kF (fun v16 v16p => ?_))
        refine r_aldU (k := 52) kx_3_109 (tk_52 hT) ⟨by omega, by omega⟩ (fun v17 v17e => ?_)
        have v17c : v17 = pCd (pVb D S s person (M 1 1 / 2).toNat 0 (S 1 person.toNat)) := by have h9 := pTt.at i12 (k := 0) (c := v16) ⟨by omega, by omega, by omega⟩ ⟨by omega, by omega⟩; rw [show v16 = S 1 person.toNat from v16p.2.2.1] at h9; exact (v17e).symm.trans ((congrArg (M5 52) (by rw [show v16 = S 1 person.toNat from v16p.2.2.1]; omega)).trans h9)
        have v17w := hvr 0 (Nat.zero_le _) (S 1 person.toNat)
        rw [Nat.sub_zero] at v17w
        have v17x := pCd_r v17w
        rw [← v17c] at v17x
        refine s_istore kx_3_110 km_3_5 rfl ?_
        refine s_aload_n kx_3_112 rfl ?_
        refine s_iconst (v := 0) kx_3_113 (by decide) ?_
        refine r_put (k := 51) (f := 2) kx_3_114 kp_3_18 (tk_51 hT) kf_0_2 rfl (by decide) (by decide) hI5 (ru_51_2 (by omega) (by omega)) (fun M18 hI18 u18 => ?_)
        have hFm18 := hFm5.up u18 rfl
        refine s_iload kx_3_117 rfl ?_
        refine s_ldc kx_3_119 kp_3_74 ?_
        refine s_icmp_lt (t := 126) kx_3_121 (by decide) (fun hc19 => ?_) (fun hc19 => ?_)
        · refine s_aload_n kx_3_126 rfl ?_
          refine s_aload_n kx_3_127 rfl ?_
          refine s_aload_n kx_3_128 rfl ?_
          refine s_iload_n kx_3_129 rfl ?_
          refine s_iload kx_3_130 rfl ?_
          refine s_callV2 (k := 51) (s1 := 5) (s2 := 0) (as := [(0, (v1 / 2)), (0, person), rf 1, rf 7]) (rest := []) kx_3_132 kp_3_75 (Or.inl rfl) rfl (tk_51 hT) ki_4 kcl_4 rfl rfl (by decide) (g_4 (d := d + 1) (person := person) (rows := (v1 / 2)) hT hI18 ht ((u18.2 7 0 (by omega)).trans ((fl5 7 0 rfl).trans ((fr3 7 0 rfl).trans h70))) (CR.up i11 u18 ht (by omega)) ((funext fun i => ((u18.2 2 _ (by omega)).trans ((fl5 2 _ rfl).trans (fr3 2 _ rfl)))).trans hs) (n := M 1 1) hE (by rw [← show x5_4 = -1 by omega]; exact (pTt.of i12 (fun f => u18.2 52 f (by omega)))) (by omega) (by omega) (by omega) (by omega)) (kV (fun M21 hI21 fr21 v20p => ?_))
          have hFm21 := hFm18.call fr21 rfl
          refine s_iload kx_3_135 rfl ?_
          exact s_iret kx_3_137 (Or.inl kq_3) ⟨_, _, rfl, rfl, hI21, hFm21, (by have h9 : v17 = pVb D S s person (M 1 1 / 2).toNat 0 (S 1 person.toNat) := (by have h8 := v17c; unfold pCd at h8; split at h8 <;> omega); exact ⟨h9, by rw [if_neg (by omega), v20p.1]; omega, fun _ => by have h7 := v20p.2; rw [show (v1 / 2) = M 1 1 / 2 by omega] at h7; exact h7⟩)⟩
        · refine s_iconst (v := (-1)) kx_3_124 (by decide) ?_
          exact s_iret kx_3_125 (Or.inl kq_3) ⟨_, _, rfl, rfl, hI18, hFm18, (by have h9 : pVb D S s person (M 1 1 / 2).toNat 0 (S 1 person.toNat) = -1 := (by have h8 := v17c; unfold pCd at h8; split at h8 <;> omega); exact ⟨h9.symm, u18.1, fun z => absurd rfl z⟩)⟩
      · refine s_iconst (v := 0) kx_3_27 (by decide) ?_
        refine s_istore kx_3_28 km_3_6 rfl ?_
        have key24 : ∀ n25 : Nat, ∀ (x6_22 : Int), ∀ M23 : cM, Rng M23 → Fr gC_3_m M M23 → Fr gC_3_l22 M3 M23 → Fr gC_3_l30 M5 M23 → (0 ≤ x6_22) → (x6_22 ≤ 8) → (x6_22 ≤ D 0 0) → (CR D S t M23) → (pTt D S s person (M 1 1 / 2).toNat M23 x5_4 x6_22) → (2147483647 - x6_22).toNat < n25 → cP k_P xs Ln (d + 6) 3 30 [(0, rf 51), (1, rf 7), (2, rf 1), (3, (0, person)), (4, (0, (v1 / 2))), (5, (0, x5_4)), (6, (0, x6_22))] [] (T, M23) (qW T M gC_3_m 0 (fun v M1 => v = pVb D S s person (M 1 1 / 2).toNat 0 (S 1 person.toNat) ∧ M1 51 2 = (if v = -1 then 0 else M 1 1 / 2) ∧ (v ≠ -1 → pTr D S s person (M 1 1 / 2).toNat M1 (M 1 1 / 2)))) := by
          intro n25
          induction n25 with
          | zero => intro x6_22 M23 hI23 hFm23 hFl2223 fl23 i26 i27 i28 i29 i30 hm31; exact absurd hm31 (Nat.not_lt_zero _)
          | succ n25 ih32 =>
            intro x6_22 M23 hI23 hFm23 hFl2223 fl23 i26 i27 i28 i29 i30 hm31
            refine s_iload kx_3_30 rfl ?_
            refine s_aload_n kx_3_32 rfl ?_
            refine r_getR (k := 7) (f := 0) (k2 := t) kx_3_33 kp_3_27 (tk_7 hT) kf_5_0 (by decide) ((fl23 7 0 rfl).trans ((fl5 7 0 rfl).trans ((fr3 7 0 rfl).trans h70))) ?_
            refine r_getI (k := t) (f := 0) kx_3_36 kp_3_56 (tkt_0 hT ht) kf_9_0 (fun _ => rfl) (rgt_0_0 hI23 ht) (fun v33 v33e v33a v33b => ?_)
            have v33d : D 0 0 = v33 := ((i29).1 0 0 (by decide)).symm.trans v33e
            have v33z : M t 0 = v33 := (((fl23 t 0 (by rcases ht with rfl | rfl <;> rfl)).trans ((fl5 t 0 (by rcases ht with rfl | rfl <;> rfl)).trans (fr3 t 0 (by rcases ht with rfl | rfl <;> rfl))))).symm.trans v33e
            refine s_icmp_ge (t := 94) kx_3_39 (by decide) (fun hc34 => ?_) (fun hc34 => ?_)
            · refine r_iinc kx_3_94 rfl km_3_5 (by decide) ⟨by omega, by omega⟩ rfl ?_
              refine s_goto (t := 22) kx_3_97 (by decide) ?_
              have ht35 : pTt D S s person (M 1 1 / 2).toNat M23 (x5_4 - 1) 0 := pTt.row i30 (by omega)
              exact cP.wk (lS1 rfl (lS1 rfl (lS1 rfl (lS1 rfl (lS1 rfl (lS1 rfl lS0)))))) (ih14 (x5_4 + (-1)) M23 hI23 hFm23 hFl2223 (by omega) (by omega) (by omega) i29 ht35 (by omega))
            · refine s_aload_n kx_3_42 rfl ?_
              refine s_aload_n kx_3_43 rfl ?_
              refine s_aload_n kx_3_44 rfl ?_
              refine s_iload_n kx_3_45 rfl ?_
              refine s_iload kx_3_46 rfl ?_
              refine s_iload kx_3_48 rfl ?_
              refine s_callV2 (k := 51) (s1 := 6) (s2 := 0) (as := [(0, x6_22), (0, x5_4), (0, person), rf 1, rf 7]) (rest := []) kx_3_50 kp_3_59 (Or.inl rfl) rfl (tk_51 hT) ki_6 kcl_6 rfl rfl (by decide) (g_6 (d := d + 2) (person := person) (k := x5_4) (chairRoom := x6_22) hT hI23 ht ((fl23 7 0 rfl).trans ((fl5 7 0 rfl).trans ((fr3 7 0 rfl).trans h70))) i29 ((funext fun i => ((fl23 2 _ rfl).trans ((fl5 2 _ rfl).trans (fr3 2 _ rfl)))).trans hs) (pTt.at i30 (k := x5_4 + 1) (c := x6_22) ⟨by omega, by omega, by omega⟩ ⟨by omega, by omega⟩) (hvr (x5_4 + 1).toNat (by omega) x6_22) (by omega) (by omega) (by omega) (by omega)) (kF (fun v36 v36p => ?_))
              refine s_istore kx_3_53 km_3_7 rfl ?_
              refine s_aload_n kx_3_55 rfl ?_
              refine s_aload_n kx_3_56 rfl ?_
              refine s_aload_n kx_3_57 rfl ?_
              refine s_iload_n kx_3_58 rfl ?_
              refine s_iload kx_3_59 rfl ?_
              refine s_iload kx_3_61 rfl ?_
              have hw37 : 0 < pWk D S s person (x5_4).toNat := (pEt_w hD hE (k := (x5_4).toNat) (by omega)).1
              have hw37r := (pWk_r hD hw37).2.1
              refine s_callV2 (k := 51) (s1 := 6) (s2 := 0) (as := [(0, x6_22), (0, x5_4), (0, person), rf 1, rf 7]) (rest := []) kx_3_63 kp_3_63 (Or.inl rfl) rfl (tk_51 hT) ki_7 kcl_7 rfl rfl (by decide) (g_7 (d := d) (person := person) (k := x5_4) (chairRoom := x6_22) hT hI23 ht ((fl23 7 0 rfl).trans ((fl5 7 0 rfl).trans ((fr3 7 0 rfl).trans h70))) i29 (Gm.fr (Gm.fr (Gm.fr hG fr3 rfl) fl5 rfl) fl23 rfl) ((funext fun i => ((fl23 2 _ rfl).trans ((fl5 2 _ rfl).trans (fr3 2 _ rfl)))).trans hs) (pTt.at i30 (k := x5_4 + 1) (c := s (2 * (x5_4).toNat)) ⟨by omega, by omega, by omega⟩ hw37r) (hvr (x5_4 + 1).toNat (by omega) _) hw37 (by omega) (by omega) (by omega) (by omega)) (kW (fun v38 M39 hI39 fr39 v38p => ?_))
              have hFm39 := hFm23.call fr39 rfl
              have hFl2239 := hFl2223.call fr39 rfl
              have hFl3039 := fl23.call fr39 rfl
              refine s_istore kx_3_66 km_3_8 rfl ?_
              refine s_aload_n kx_3_68 rfl ?_
              refine r_getR (k := 51) (f := 0) (k2 := 52) kx_3_69 kp_3_9 (tk_51 hT) kf_0_0 (by decide) (rq_51_0 hI39) ?_
              refine s_iload kx_3_72 rfl ?_
              refine s_bipush (v := 8) kx_3_74 (by decide) ?_
              refine r_mul kx_3_76 ⟨by omega, by omega⟩ ?_
              refine s_iload kx_3_77 rfl ?_
              refine r_add kx_3_79 ⟨by omega, by omega⟩ ?_
              refine s_iload kx_3_80 rfl ?_
              refine s_iload kx_3_82 rfl ?_
              refine s_callS2 (s1 := 2) (s2 := 2) (as := [(0, v38), (0, v36)]) (rest := [(0, ((x5_4 * 8) + x6_22)), rf 52]) kx_3_84 kp_3_66 rfl kcl_299 rfl rfl (by decide) (m_299 (d := d + 5) (a := v36) (b := v38) hT hI39) (kF (fun v40 v40p => ?_))
              refine r_ast (k := 52) kx_3_87 (tk_52 hT) ⟨by omega, by omega⟩ hI39 ru_52 (fun M41 hI41 u41 => ?_)
              have hFm41 := hFm39.up u41 rfl
              have hFl2241 := hFl2239.up u41 rfl
              have hFl3041 := hFl3039.up u41 rfl
              refine r_iinc kx_3_88 rfl km_3_6 (by decide) ⟨by omega, by omega⟩ rfl ?_
              refine s_goto (t := 30) kx_3_91 (by decide) ?_
              have ht42 : pTt D S s person (M 1 1 / 2).toNat M41 x5_4 (x6_22 + 1) := pTt.nx (pTt.of i30 (fun f => fr39 52 f rfl)) u41 ⟨by omega, by omega, by omega⟩ (by omega) (by omega) (by omega) (st_step hD hE rfl ⟨by omega, by omega⟩ v36p v38p v40p)
              exact cP.wk (lS1 rfl (lS1 rfl (lS1 rfl (lS1 rfl (lS1 rfl (lS1 rfl (lS1 rfl lS0))))))) (ih32 (x6_22 + 1) M41 hI41 hFm41 hFl2241 hFl3041 (by omega) (by omega) (by omega) (CR.up (CR.fr i29 fr39 ht rfl) u41 ht (by omega)) ht42 (by omega))
        exact cP.wk (lS1 rfl (lS1 rfl (lS1 rfl (lS1 rfl (lS1 rfl (lS1 rfl (lS1 rfl lS0))))))) (key24 _ 0 M5 hI5 hFm5 fl5 Fr.refl (by omega) (by omega) (by omega) i11 i12 (Nat.lt_succ_self _))
  exact cP.wk (lS1 rfl (lS1 rfl (lS1 rfl (lS1 rfl (lS1 rfl (lS1 rfl lS0)))))) (key6 _ ((v1 / 2) - 1) M3 hI3 hFm3 Fr.refl (by omega) (by omega) (by omega) (CR.fr hC fr3 ht rfl) htt0 (Nat.lt_succ_self _))
