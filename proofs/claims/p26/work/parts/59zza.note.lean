def gC_82_l10 : List (Nat × Nat) := [(55, 99999)]
def gC_82_m : List (Nat × Nat) := [(55, 99999)]
theorem g_82 {xs : Nat → Int} {Ln d : Nat} {T : List cK} {M : cM} (hT : TT T) (hI : Rng M) {t : Nat} (ht : t = 8 ∨ t = 25) (h70 : M 7 0 = ((t : Nat) : Int)) {D S : cM} (hC : CR D S t M) {s : Nat → Int} (hs : M 2 = s) (p0 : DST s (M 1 1 / 2)) (p1 : M 1 1 ≤ 16) (p2 : M 1 1 % 2 = 0) (p3 : 0 ≤ M 1 1) : cC k_P xs Ln (d + 1) 82 [rf 54, rf 1] (T, M) (qV T M gC_82_m (fun M1 => NTD s (M 1 1 / 2) M1)) := by
  show cP k_P xs Ln (d + 1) 82 0 [(0, rf 54), (1, rf 1)] [] (T, M) _
  have hFm : Fr gC_82_m M M := Fr.refl
  have hD := hC.2.1
  have hDr := hD.rg
  have hSW := hC.2.2.2.2
  have hDS := p0
  refine s_aload_n kx_82_0 rfl ?_
  refine r_getR (k := 54) (f := 0) (k2 := 55) kx_82_1 kp_82_9 (tk_54 hT) kf_6_0 (by decide) (rq_54_0 hI) ?_
  refine s_iconst (v := (-1)) kx_82_4 (by decide) ?_
  refine s_callS2 (s1 := 2) (s2 := 0) (as := [(0, (-1)), rf 55]) (rest := []) kx_82_5 kp_82_100 rfl kcl_301 rfl rfl (by decide) (f_fill (d := d) (val := (-1)) hT hI (k := 55) (n := 8) (tk_55 hT) (by decide) (fun _ => (ru_55 (by omega) (by omega)))) (kV (fun M2 hI2 fr2 v1p => ?_))
  have hFm2 := hFm.call fr2 rfl
  have hnt0 : NTD s 0 M2 := fun r r0 r1 => (v1p r.toNat (by omega))
  refine s_iconst (v := 0) kx_82_8 (by decide) ?_
  refine s_istore_n kx_82_9 km_82_2 rfl ?_
  have key5 : ∀ n6 : Nat, ∀ (x2_3 : Int), ∀ M4 : cM, Rng M4 → Fr gC_82_m M M4 → Fr gC_82_l10 M2 M4 → (0 ≤ x2_3) → (x2_3 ≤ 17) → (x2_3 % 2 = 0) → (0 ≤ x2_3) → (x2_3 ≤ M 1 1) → (NTD s (x2_3 / 2) M4) → (2147483647 - x2_3).toNat < n6 → cP k_P xs Ln (d + 1) 82 10 [(0, rf 54), (1, rf 1), (2, (0, x2_3))] [] (T, M4) (qV T M gC_82_m (fun M1 => NTD s (M 1 1 / 2) M1)) := by
    intro n6
    induction n6 with
    | zero => intro x2_3 M4 hI4 hFm4 fl4 i7 i8 i9 i10 i11 i12 hm13; exact absurd hm13 (Nat.not_lt_zero _)
    | succ n6 ih14 =>
      intro x2_3 M4 hI4 hFm4 fl4 i7 i8 i9 i10 i11 i12 hm13
      refine s_iload_n kx_82_10 rfl ?_
      refine s_iconst (v := 1) kx_82_11 (by decide) ?_
      refine r_add kx_82_12 ⟨by omega, by omega⟩ ?_
      refine s_aload_n kx_82_13 rfl ?_
      refine r_getI (k := 1) (f := 1) kx_82_14 kp_82_85 (tk_1 hT) kf_8_1 (fun _ => rfl) (rg_1_1 hI4) (fun v15 v15e v15a v15b => ?_)
      have v15z : M 1 1 = v15 := (((fl4 1 1 rfl).trans (fr2 1 1 rfl))).symm.trans v15e
      refine s_icmp_ge (t := 53) kx_82_17 (by decide) (fun hc16 => ?_) (fun hc16 => ?_)
      · exact s_vret kx_82_53 kq_82 ⟨_, rfl, rfl, hI4, hFm4, (by rw [show M 1 1 / 2 = x2_3 / 2 by omega]; exact i12)⟩
      · refine s_aload_n kx_82_20 rfl ?_
        refine r_getR (k := 1) (f := 0) (k2 := 2) kx_82_21 kp_82_90 (tk_1 hT) kf_8_0 (by decide) (rq_1_0 hI4) ?_
        refine s_iload_n kx_82_24 rfl ?_
        refine r_ald (k := 2) kx_82_25 (tk_2 hT) ⟨by omega, by omega⟩ (rg_2 hI4) (fun v17 v17e v17a v17b => ?_)
        have v17r : s (x2_3).toNat = v17 := (congrFun hs (x2_3).toNat).symm.trans ((((fl4 2 _ rfl).trans (fr2 2 _ rfl))).symm.trans v17e)
        have v17q : s (2 * (x2_3 / 2)).toNat = v17 := (congrArg s (by omega)).trans v17r
        have v17h := (hDS.2 (x2_3 / 2) (by omega) (by omega)).1
        rw [v17q] at v17h
        refine s_istore_n kx_82_26 km_82_3 rfl ?_
        refine s_iload_n kx_82_27 rfl ?_
        refine s_bipush (v := 8) kx_82_28 (by decide) ?_
        refine s_icmp_ge (t := 47) kx_82_30 (by decide) (fun hc18 => absurd hc18 (by omega)) (fun hc18 => ?_)
        refine s_aload_n kx_82_33 rfl ?_
        refine r_getR (k := 54) (f := 0) (k2 := 55) kx_82_34 kp_82_9 (tk_54 hT) kf_6_0 (by decide) (rq_54_0 hI4) ?_
        refine s_iload_n kx_82_37 rfl ?_
        refine s_aload_n kx_82_38 rfl ?_
        refine r_getR (k := 1) (f := 0) (k2 := 2) kx_82_39 kp_82_90 (tk_1 hT) kf_8_0 (by decide) (rq_1_0 hI4) ?_
        refine s_iload_n kx_82_42 rfl ?_
        refine s_iconst (v := 1) kx_82_43 (by decide) ?_
        refine r_add kx_82_44 ⟨by omega, by omega⟩ ?_
        refine r_ald (k := 2) kx_82_45 (tk_2 hT) ⟨by omega, by omega⟩ (rg_2 hI4) (fun v19 v19e v19a v19b => ?_)
        have v19r : s ((x2_3 + 1)).toNat = v19 := (congrFun hs ((x2_3 + 1)).toNat).symm.trans ((((fl4 2 _ rfl).trans (fr2 2 _ rfl))).symm.trans v19e)
        have v19q : s (2 * (x2_3 / 2) + 1).toNat = v19 := (congrArg s (by omega)).trans v19r
        refine r_ast (k := 55) kx_82_46 (tk_55 hT) ⟨by omega, by omega⟩ hI4 (ru_55 (by omega) (by omega)) (fun M20 hI20 u20 => ?_)
        have hFm20 := hFm4.up u20 rfl
        have hFl1020 := fl4.up u20 rfl
        refine r_iinc kx_82_47 rfl km_82_2 (by decide) ⟨by omega, by omega⟩ rfl ?_
        refine s_goto (t := 10) kx_82_50 (by decide) ?_
        exact cP.wk (lS1 rfl (lS1 rfl (lS1 rfl lS0))) (ih14 (x2_3 + 2) M20 hI20 hFm20 hFl1020 (by omega) (by omega) (by omega) (by omega) (by omega) (by rw [show (x2_3 + 2) / 2 = x2_3 / 2 + 1 by omega]; exact NTD.nx i12 (by omega) u20 ⟨by omega, by omega⟩ rfl v17q v19q) (by omega))
  exact cP.wk (lS1 rfl (lS1 rfl (lS1 rfl lS0))) (key5 _ 0 M2 hI2 hFm2 Fr.refl (by omega) (by omega) (by omega) (by omega) (by omega) hnt0 (Nat.lt_succ_self _))
def hC_81_m : List (Nat × Nat) := [(55, 99999)]
def hC_81_l33 : List (Nat × Nat) := []
theorem h_81 {xs : Nat → Int} {Ln d : Nat} {T : List cK} {M : cM} (hT : TT T) (hI : Rng M) {t : Nat} (ht : t = 8 ∨ t = 25) (h70 : M 7 0 = ((t : Nat) : Int)) {D S : cM} (hC : CR D S t M) {s : Nat → Int} (hs : M 2 = s) : cC k_P xs Ln (d + 2) 81 [rf 54, rf t, rf 1] (T, M) (qW T M hC_81_m 0 (fun v M1 => (v = 1 ∧ pSo D s (M 1 1) = 1 ∧ DST s (M 1 1 / 2) ∧ NTD s (M 1 1 / 2) M1) ∨ (v = 0 ∧ pSo D s (M 1 1) = 0))) := by
  show cP k_P xs Ln (d + 2) 81 0 [(0, rf 54), (1, rf t), (2, rf 1)] [] (T, M) _
  have hFm : Fr hC_81_m M M := Fr.refl
  have hD := hC.2.1
  have hDr := hD.rg
  have hSW := hC.2.2.2.2
  refine s_aload_n kx_81_0 rfl ?_
  refine r_getI (k := 1) (f := 1) kx_81_1 kp_81_85 (tk_1 hT) kf_8_1 (fun _ => rfl) (rg_1_1 hI) (fun v1 v1e v1a v1b => ?_)
  refine s_iconst (v := 2) kx_81_4 (by decide) ?_
  refine s_icmp_lt (t := 26) kx_81_5 (by decide) (fun hc2 => ?_) (fun hc2 => ?_)
  · refine s_iconst (v := 0) kx_81_26 (by decide) ?_
    exact s_iret kx_81_27 (Or.inr ⟨kq_81, by omega⟩) ⟨_, _, rfl, rfl, hI, hFm, (Or.inr ⟨rfl, by unfold pSo; exact if_neg (by omega)⟩)⟩
  · refine s_aload_n kx_81_8 rfl ?_
    refine r_getK (k := 1) (f := 1) kx_81_9 kp_81_85 (tk_1 hT) kf_8_1 (fun _ => rfl) v1e ?_
    refine s_bipush (v := 16) kx_81_12 (by decide) ?_
    refine s_icmp_gt (t := 26) kx_81_14 (by decide) (fun hc3 => ?_) (fun hc3 => ?_)
    · refine s_iconst (v := 0) kx_81_26 (by decide) ?_
      exact s_iret kx_81_27 (Or.inr ⟨kq_81, by omega⟩) ⟨_, _, rfl, rfl, hI, hFm, (Or.inr ⟨rfl, by unfold pSo; exact if_neg (by omega)⟩)⟩
    · refine s_aload_n kx_81_17 rfl ?_
      refine r_getK (k := 1) (f := 1) kx_81_18 kp_81_85 (tk_1 hT) kf_8_1 (fun _ => rfl) v1e ?_
      refine s_iconst (v := 2) kx_81_21 (by decide) ?_
      refine r_irem kx_81_22 (by omega) (by omega) (by omega) (by omega) ?_
      refine s_if_eq (t := 28) kx_81_23 (by decide) (fun hc4 => ?_) (fun hc4 => ?_)
      · refine s_iconst (v := 0) kx_81_28 (by decide) ?_
        refine s_istore_n kx_81_29 km_81_3 rfl ?_
        refine s_iconst (v := 0) kx_81_30 (by decide) ?_
        refine s_istore kx_81_31 km_81_4 rfl ?_
        have key7 : ∀ n8 : Nat, ∀ (x3_5 x4_6 : Int), (0 ≤ x4_6) → (x4_6 ≤ 16) → (x4_6 % 2 = 0) → (x4_6 ≤ M 1 1) → (0 ≤ x4_6) → (pAll (cSo D s) (x4_6 / 2).toNat = 1) → (SEE s (x4_6 / 2) x3_5) → (2147483647 - x4_6).toNat < n8 → cP k_P xs Ln (d + 2) 81 33 [(0, rf 54), (1, rf t), (2, rf 1), (3, (0, x3_5)), (4, (0, x4_6))] [] (T, M) (qW T M hC_81_m 0 (fun v M1 => (v = 1 ∧ pSo D s (M 1 1) = 1 ∧ DST s (M 1 1 / 2) ∧ NTD s (M 1 1 / 2) M1) ∨ (v = 0 ∧ pSo D s (M 1 1) = 0))) := by
          intro n8
          induction n8 with
          | zero => intro x3_5 x4_6 i9 i10 i11 i12 i13 i14 i15 hm16; exact absurd hm16 (Nat.not_lt_zero _)
          | succ n8 ih17 =>
            intro x3_5 x4_6 i9 i10 i11 i12 i13 i14 i15 hm16
            refine s_iload kx_81_33 rfl ?_
            refine s_iconst (v := 1) kx_81_35 (by decide) ?_
            refine r_add kx_81_36 ⟨by omega, by omega⟩ ?_
            refine s_aload_n kx_81_37 rfl ?_
            refine r_getK (k := 1) (f := 1) kx_81_38 kp_81_85 (tk_1 hT) kf_8_1 (fun _ => rfl) v1e ?_
            refine s_icmp_ge (t := 87) kx_81_41 (by decide) (fun hc18 => ?_) (fun hc18 => ?_)
            · have hso : pSo D s (M 1 1) = 1 := by unfold pSo; rw [if_pos ⟨⟨by omega, by omega, by omega⟩, by rw [show M 1 1 = x4_6 by omega]; exact i14⟩]
              have hs0 : ∀ i, 0 ≤ s i := fun i => by rw [← hs]; exact (rg_2 hI).1
              have hds := DST.of hDr.2.1 hs0 hso
              refine s_aload_n kx_81_87 rfl ?_
              refine s_aload_n kx_81_88 rfl ?_
              refine s_callV2 (k := 54) (s1 := 2) (s2 := 0) (as := [rf 1]) (rest := []) kx_81_89 kp_81_96 (Or.inl rfl) rfl (tk_54 hT) ki_82 kcl_82 rfl rfl (by decide) (g_82 (d := d) hT hI ht h70 hC hs hds (by omega) (by omega) (by omega)) (kV (fun M20 hI20 fr20 v19p => ?_))
              have hFm20 := hFm.call fr20 rfl
              refine s_iconst (v := 1) kx_81_92 (by decide) ?_
              exact s_iret kx_81_93 (Or.inr ⟨kq_81, by omega⟩) ⟨_, _, rfl, rfl, hI20, hFm20, (Or.inl ⟨rfl, hso, hds, v19p⟩)⟩
            · refine s_aload_n kx_81_44 rfl ?_
              refine r_getR (k := 1) (f := 0) (k2 := 2) kx_81_45 kp_81_90 (tk_1 hT) kf_8_0 (by decide) (rq_1_0 hI) ?_
              refine s_iload kx_81_48 rfl ?_
              refine r_ald (k := 2) kx_81_50 (tk_2 hT) ⟨by omega, by omega⟩ (rg_2 hI) (fun v21 v21e v21a v21b => ?_)
              have v21r : s (x4_6).toNat = v21 := (congrFun hs (x4_6).toNat).symm.trans (v21e)
              have v21q : s (2 * (x4_6 / 2)).toNat = v21 := (congrArg s (by omega)).trans v21r
              refine s_istore kx_81_51 km_81_5 rfl ?_
              refine s_aload_n kx_81_53 rfl ?_
              refine s_iload kx_81_54 rfl ?_
              refine s_callV2 (k := t) (s1 := 2) (s2 := 0) (as := [(0, v21)]) (rest := []) kx_81_56 kp_81_93 (Or.inl rfl) rfl (tkt_0 hT ht) ki_106 kcl_106 rfl rfl (by decide) (g_106 (d := d + 1) (room := v21) hT hI ht h70 hC) (kF (fun v22 v22p => ?_))
              refine s_if_eq (t := 72) kx_81_59 (by decide) (fun hc23 => ?_) (fun hc23 => ?_)
              · replace v22p := v22p.resolve_left (by omega)
                have hno : cSo D s (x4_6 / 2) ≠ 1 := by unfold cSo; rw [v21q, if_neg (by have h9 := i15.2 v21; omega)]; decide
                refine s_iconst (v := 0) kx_81_72 (by decide) ?_
                exact s_iret kx_81_73 (Or.inr ⟨kq_81, by omega⟩) ⟨_, _, rfl, rfl, hI, hFm, (Or.inr ⟨rfl, by have h9 := pAll_0 (c := cSo D s) (x := x4_6 / 2) (by omega) hno (M 1 1 / 2).toNat (by omega); unfold pSo; exact if_neg (by omega)⟩)⟩
              · replace v22p := v22p.resolve_right (by omega)
                refine s_iload_n kx_81_62 rfl ?_
                refine s_iload kx_81_63 rfl ?_
                refine s_ishr (z := (tbS x3_5 v21)) kx_81_65 rfl ?_
                refine s_iconst (v := 1) kx_81_66 (by decide) ?_
                refine s_iand (z := (tbA (tbS x3_5 v21) 1)) kx_81_67 rfl ?_
                have hb26 := tbA_1 (tbS x3_5 v21)
                refine s_iconst (v := 1) kx_81_68 (by decide) ?_
                refine s_icmp_ne (t := 74) kx_81_69 (by decide) (fun hc27 => ?_) (fun hc27 => ?_)
                · refine s_iload_n kx_81_74 rfl ?_
                  refine s_iconst (v := 1) kx_81_75 (by decide) ?_
                  refine s_iload kx_81_76 rfl ?_
                  refine s_ishl (z := (tbL 1 v21)) kx_81_78 rfl ?_
                  refine s_ior (z := (tbO x3_5 (tbL 1 v21))) kx_81_79 rfl ?_
                  refine s_istore_n kx_81_80 km_81_3 rfl ?_
                  refine r_iinc kx_81_81 rfl km_81_4 (by decide) ⟨by omega, by omega⟩ rfl ?_
                  refine s_goto (t := 33) kx_81_84 (by decide) ?_
                  exact cP.wk (lS1 rfl (lS1 rfl (lS1 rfl (lS1 rfl (lS1 rfl lS0))))) (ih17 (tbO x3_5 (tbL 1 v21)) (x4_6 + 2) (by omega) (by omega) (by omega) (by omega) (by omega) (by rw [show (x4_6 + 2) / 2 = x4_6 / 2 + 1 by omega]; exact pAll_S i14 (by omega) (by unfold cSo; rw [v21q]; exact if_pos (by have h9 := i15.2 v21; omega))) (by rw [show (x4_6 + 2) / 2 = x4_6 / 2 + 1 by omega]; exact SEE.nx i15 (by omega) ⟨by omega, by omega⟩ v21q) (by omega))
                · have hno : cSo D s (x4_6 / 2) ≠ 1 := by unfold cSo; rw [v21q, if_neg (by have h9 := i15.2 v21; omega)]; decide
                  refine s_iconst (v := 0) kx_81_72 (by decide) ?_
                  exact s_iret kx_81_73 (Or.inr ⟨kq_81, by omega⟩) ⟨_, _, rfl, rfl, hI, hFm, (Or.inr ⟨rfl, by have h9 := pAll_0 (c := cSo D s) (x := x4_6 / 2) (by omega) hno (M 1 1 / 2).toNat (by omega); unfold pSo; exact if_neg (by omega)⟩)⟩
        exact cP.wk (lS1 rfl (lS1 rfl (lS1 rfl (lS1 rfl (lS1 rfl lS0))))) (key7 _ 0 0 (by omega) (by omega) (by omega) (by omega) (by omega) rfl SEE.zero (Nat.lt_succ_self _))
      · refine s_iconst (v := 0) kx_81_26 (by decide) ?_
        exact s_iret kx_81_27 (Or.inr ⟨kq_81, by omega⟩) ⟨_, _, rfl, rfl, hI, hFm, (Or.inr ⟨rfl, by unfold pSo; exact if_neg (by omega)⟩)⟩
