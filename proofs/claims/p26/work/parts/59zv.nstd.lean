def gC_81_m : List (Nat × Nat) := [(55, 99999)]
def gC_81_l33 : List (Nat × Nat) := []
theorem g_81 {xs : Nat → Int} {Ln d : Nat} {T : List cK} {M : cM} (hT : TT T) (hI : Rng M) {t : Nat} (ht : t = 8 ∨ t = 25) (h70 : M 7 0 = ((t : Nat) : Int)) {D S : cM} (hC : CR D S t M) {s : Nat → Int} (hs : M 2 = s) : cC k_P xs Ln (d + 2) 81 [rf 54, rf t, rf 1] (T, M) (qW T M gC_81_m 0 (fun v M1 => (v = 1 ∧ pSo D s (M 1 1) = 1) ∨ (v = 0 ∧ pSo D s (M 1 1) = 0))) := by
  show cP k_P xs Ln (d + 2) 81 0 [(0, rf 54), (1, rf t), (2, rf 1)] [] (T, M) _
  have hFm : Fr gC_81_m M M := Fr.refl
  have hD := hC.2.1
  have hDr := hD.rg
  have hSW := hC.2.2.2.2
  refine s_aload_n kx_81_0 rfl ?_
  refine r_getI (k := 1) (f := 1) kx_81_1 kp_81_85 (tk_1 hT) kf_8_1 (fun _ => rfl) (rg_1_1 hI) (fun v1 v1e v1a v1b => ?_)
  refine s_iconst (v := 2) kx_81_4 (by decide) ?_
  refine s_icmp_lt (t := 26) kx_81_5 (by decide) (fun hc2 => ?_) (fun hc2 => ?_)
  · refine s_iconst (v := 0) kx_81_26 (by decide) ?_
    exact s_iret kx_81_27 (Or.inr ⟨kq_81, by omega⟩) ⟨_, _, rfl, rfl, hI, hFm, (Or.inr ⟨rfl, by unfold pSo; exact if_neg (by omega)⟩)⟩
  · refine s_aload_n kx_81_8 rfl ?_
    refine r_getK (k := 1) (f := 1) kx_81_9 kp_81_85 (tk_1 hT) kf_8_1 (fun _ => rfl) v1e ?_
    refine s_bipush (v := 16) kx_81_12 (by decide) ?_
    refine s_icmp_gt (t := 26) kx_81_14 (by decide) (fun hc3 => ?_) (fun hc3 => ?_)
    · refine s_iconst (v := 0) kx_81_26 (by decide) ?_
      exact s_iret kx_81_27 (Or.inr ⟨kq_81, by omega⟩) ⟨_, _, rfl, rfl, hI, hFm, (Or.inr ⟨rfl, by unfold pSo; exact if_neg (by omega)⟩)⟩
    · refine s_aload_n kx_81_17 rfl ?_
      refine r_getK (k := 1) (f := 1) kx_81_18 kp_81_85 (tk_1 hT) kf_8_1 (fun _ => rfl) v1e ?_
      refine s_iconst (v := 2) kx_81_21 (by decide) ?_
      refine r_irem kx_81_22 (by omega) (by omega) (by omega) (by omega) ?_
      refine s_if_eq (t := 28) kx_81_23 (by decide) (fun hc4 => ?_) (fun hc4 => ?_)
      · refine s_iconst (v := 0) kx_81_28 (by decide) ?_
        refine s_istore_n kx_81_29 km_81_3 rfl ?_
        refine s_iconst (v := 0) kx_81_30 (by decide) ?_
        refine s_istore kx_81_31 km_81_4 rfl ?_
        have key7 : ∀ n8 : Nat, ∀ (x3_5 x4_6 : Int), (0 ≤ x4_6) → (x4_6 ≤ 16) → (x4_6 % 2 = 0) → (x4_6 ≤ M 1 1) → (0 ≤ x4_6) → (pAll (cSo D s) (x4_6 / 2).toNat = 1) → (SEE s (x4_6 / 2) x3_5) → (2147483647 - x4_6).toNat < n8 → cP k_P xs Ln (d + 2) 81 33 [(0, rf 54), (1, rf t), (2, rf 1), (3, (0, x3_5)), (4, (0, x4_6))] [] (T, M) (qW T M gC_81_m 0 (fun v M1 => (v = 1 ∧ pSo D s (M 1 1) = 1) ∨ (v = 0 ∧ pSo D s (M 1 1) = 0))) := by
          intro n8
          induction n8 with
          | zero => intro x3_5 x4_6 i9 i10 i11 i12 i13 i14 i15 hm16; exact absurd hm16 (Nat.not_lt_zero _)
          | succ n8 ih17 =>
            intro x3_5 x4_6 i9 i10 i11 i12 i13 i14 i15 hm16
            refine s_iload kx_81_33 rfl ?_
            refine s_iconst (v := 1) kx_81_35 (by decide) ?_
            refine r_add kx_81_36 ⟨by omega, by omega⟩ ?_
            refine s_aload_n kx_81_37 rfl ?_
            refine r_getK (k := 1) (f := 1) kx_81_38 kp_81_85 (tk_1 hT) kf_8_1 (fun _ => rfl) v1e ?_
            refine s_icmp_ge (t := 87) kx_81_41 (by decide) (fun hc18 => ?_) (fun hc18 => ?_)
            · refine s_aload_n kx_81_87 rfl ?_
              refine s_aload_n kx_81_88 rfl ?_
              refine s_callV2 (k := 54) (s1 := 2) (s2 := 0) (as := [rf 1]) (rest := []) kx_81_89 kp_81_96 (Or.inl rfl) rfl (tk_54 hT) ki_82 kcl_82 rfl rfl (by decide) (m_82 (d := d) hT hI) (kV (fun M20 hI20 fr20 v19p => ?_))
              have hFm20 := hFm.call fr20 rfl
              refine s_iconst (v := 1) kx_81_92 (by decide) ?_
              exact s_iret kx_81_93 (Or.inr ⟨kq_81, by omega⟩) ⟨_, _, rfl, rfl, hI20, hFm20, (Or.inl ⟨rfl, by unfold pSo; rw [if_pos ⟨⟨by omega, by omega, by omega⟩, by rw [show M 1 1 = x4_6 by omega]; exact i14⟩]⟩)⟩
            · refine s_aload_n kx_81_44 rfl ?_
              refine r_getR (k := 1) (f := 0) (k2 := 2) kx_81_45 kp_81_90 (tk_1 hT) kf_8_0 (by decide) (rq_1_0 hI) ?_
              refine s_iload kx_81_48 rfl ?_
              refine r_ald (k := 2) kx_81_50 (tk_2 hT) ⟨by omega, by omega⟩ (rg_2 hI) (fun v21 v21e v21a v21b => ?_)
              have v21r : s (x4_6).toNat = v21 := (congrFun hs (x4_6).toNat).symm.trans (v21e)
              have v21q : s (2 * (x4_6 / 2)).toNat = v21 := (congrArg s (by omega)).trans v21r
              refine s_istore kx_81_51 km_81_5 rfl ?_
              refine s_aload_n kx_81_53 rfl ?_
              refine s_iload kx_81_54 rfl ?_
              refine s_callV2 (k := t) (s1 := 2) (s2 := 0) (as := [(0, v21)]) (rest := []) kx_81_56 kp_81_93 (Or.inl rfl) rfl (tkt_0 hT ht) ki_106 kcl_106 rfl rfl (by decide) (g_106 (d := d + 1) (room := v21) hT hI ht h70 hC) (kF (fun v22 v22p => ?_))
              refine s_if_eq (t := 72) kx_81_59 (by decide) (fun hc23 => ?_) (fun hc23 => ?_)
              · replace v22p := v22p.resolve_left (by omega)
                have hno : cSo D s (x4_6 / 2) ≠ 1 := by unfold cSo; rw [v21q, if_neg (by have h9 := i15.2 v21; omega)]; decide
                refine s_iconst (v := 0) kx_81_72 (by decide) ?_
                exact s_iret kx_81_73 (Or.inr ⟨kq_81, by omega⟩) ⟨_, _, rfl, rfl, hI, hFm, (Or.inr ⟨rfl, by have h9 := pAll_0 (c := cSo D s) (x := x4_6 / 2) (by omega) hno (M 1 1 / 2).toNat (by omega); unfold pSo; exact if_neg (by omega)⟩)⟩
              · replace v22p := v22p.resolve_right (by omega)
                refine s_iload_n kx_81_62 rfl ?_
                refine s_iload kx_81_63 rfl ?_
                refine s_ishr (z := (tbS x3_5 v21)) kx_81_65 rfl ?_
                refine s_iconst (v := 1) kx_81_66 (by decide) ?_
                refine s_iand (z := (tbA (tbS x3_5 v21) 1)) kx_81_67 rfl ?_
                have hb26 := tbA_1 (tbS x3_5 v21)
                refine s_iconst (v := 1) kx_81_68 (by decide) ?_
                refine s_icmp_ne (t := 74) kx_81_69 (by decide) (fun hc27 => ?_) (fun hc27 => ?_)
                · refine s_iload_n kx_81_74 rfl ?_
                  refine s_iconst (v := 1) kx_81_75 (by decide) ?_
                  refine s_iload kx_81_76 rfl ?_
                  refine s_ishl (z := (tbL 1 v21)) kx_81_78 rfl ?_
                  refine s_ior (z := (tbO x3_5 (tbL 1 v21))) kx_81_79 rfl ?_
                  refine s_istore_n kx_81_80 km_81_3 rfl ?_
                  refine r_iinc kx_81_81 rfl km_81_4 (by decide) ⟨by omega, by omega⟩ rfl ?_
                  refine s_goto (t := 33) kx_81_84 (by decide) ?_
                  exact cP.wk (lS1 rfl (lS1 rfl (lS1 rfl (lS1 rfl (lS1 rfl lS0))))) (ih17 (tbO x3_5 (tbL 1 v21)) (x4_6 + 2) (by omega) (by omega) (by omega) (by omega) (by omega) (by rw [show (x4_6 + 2) / 2 = x4_6 / 2 + 1 by omega]; exact pAll_S i14 (by omega) (by unfold cSo; rw [v21q]; exact if_pos (by have h9 := i15.2 v21; omega))) (by rw [show (x4_6 + 2) / 2 = x4_6 / 2 + 1 by omega]; exact SEE.nx i15 (by omega) ⟨by omega, by omega⟩ v21q) (by omega))
                · have hno : cSo D s (x4_6 / 2) ≠ 1 := by unfold cSo; rw [v21q, if_neg (by have h9 := i15.2 v21; omega)]; decide
                  refine s_iconst (v := 0) kx_81_72 (by decide) ?_
                  exact s_iret kx_81_73 (Or.inr ⟨kq_81, by omega⟩) ⟨_, _, rfl, rfl, hI, hFm, (Or.inr ⟨rfl, by have h9 := pAll_0 (c := cSo D s) (x := x4_6 / 2) (by omega) hno (M 1 1 / 2).toNat (by omega); unfold pSo; exact if_neg (by omega)⟩)⟩
        exact cP.wk (lS1 rfl (lS1 rfl (lS1 rfl (lS1 rfl (lS1 rfl lS0))))) (key7 _ 0 0 (by omega) (by omega) (by omega) (by omega) (by omega) rfl SEE.zero (Nat.lt_succ_self _))
      · refine s_iconst (v := 0) kx_81_26 (by decide) ?_
        exact s_iret kx_81_27 (Or.inr ⟨kq_81, by omega⟩) ⟨_, _, rfl, rfl, hI, hFm, (Or.inr ⟨rfl, by unfold pSo; exact if_neg (by omega)⟩)⟩
def gC_159_m : List (Nat × Nat) := [(1, 1), (54, 6), (54, 7), (55, 99999), (56, 99999), (57, 99999), (58, 99999), (59, 99999), (60, 99999), (61, 99999)]
theorem n_159 {xs : Nat → Int} {Ln d : Nat} {T : List cK} {M : cM} (hT : TT T) (hI : Rng M) {t : Nat} (ht : t = 8 ∨ t = 25) (h70 : M 7 0 = ((t : Nat) : Int)) {D S : cM} (hC : CR D S t M) {s : Nat → Int} (hs : M 2 = s) : cC k_P xs Ln (d + 5) 159 [rf 0] (T, M) (qW T M gC_159_m 0 (fun v M1 => (((pSo D s (M 1 1) = 0) ∧ RFn 5 (M 61) (M1 61)) ∨ ((pSo D s (M 1 1) = 1) ∧ R0n (M 61) (M1 61))) ∧ M1 1 1 = 0)) := by
  show cP k_P xs Ln (d + 5) 159 0 [(0, rf 0)] [] (T, M) _
  have hFm : Fr gC_159_m M M := Fr.refl
  have hD := hC.2.1
  have hDr := hD.rg
  have hSW := hC.2.2.2.2
  refine s_aload_n kx_159_0 rfl ?_
  refine r_getR (k := 0) (f := 6) (k2 := 54) kx_159_1 kp_159_54 (tk_0 hT) kf_11_6 (by decide) (rq_0_6 hI) ?_
  refine s_aload_n kx_159_4 rfl ?_
  refine r_getR (k := 0) (f := 2) (k2 := 7) kx_159_5 kp_159_26 (tk_0 hT) kf_11_2 (by decide) (rq_0_2 hI) ?_
  refine r_getR (k := 7) (f := 0) (k2 := t) kx_159_8 kp_159_120 (tk_7 hT) kf_5_0 (by decide) h70 ?_
  refine s_aload_n kx_159_11 rfl ?_
  refine r_getR (k := 0) (f := 0) (k2 := 1) kx_159_12 kp_159_10 (tk_0 hT) kf_11_0 (by decide) (rq_0_0 hI) ?_
  refine s_callV2 (k := 54) (s1 := 3) (s2 := 0) (as := [rf 1, rf t]) (rest := []) kx_159_15 kp_159_301 (Or.inl rfl) rfl (tk_54 hT) ki_81 kcl_81 rfl rfl (by decide) (g_81 (d := d + 2) hT hI ht h70 hC hs) (kW (fun v1 M2 hI2 fr2 v1p => ?_))
  have hFm2 := hFm.call fr2 rfl
  refine s_istore_n kx_159_18 km_159_1 rfl ?_
  refine s_iload_n kx_159_19 rfl ?_
  refine s_if_eq (t := 37) kx_159_20 (by decide) (fun hc3 => ?_) (fun hc3 => ?_)
  · replace v1p := v1p.resolve_left (by omega)
    refine s_aload_n kx_159_37 rfl ?_
    refine s_iconst (v := 5) kx_159_38 (by decide) ?_
    refine s_callV2 (k := 0) (s1 := 2) (s2 := 0) (as := [(0, 5)]) (rest := []) kx_159_39 kp_159_81 (Or.inl rfl) rfl (tk_0 hT) ki_165 kcl_165 rfl rfl (by decide) (n_165 (d := d + 4) (kind := 5) hT hI2 (by omega)) (kW (fun v4 M5 hI5 fr5 v4p => ?_))
    have hFm5 := hFm2.call fr5 rfl
    refine s_istore_n kx_159_42 km_159_2 rfl ?_
    refine s_aload_n kx_159_43 rfl ?_
    refine r_getR (k := 0) (f := 0) (k2 := 1) kx_159_44 kp_159_10 (tk_0 hT) kf_11_0 (by decide) (rq_0_0 hI5) ?_
    refine s_iconst (v := 0) kx_159_47 (by decide) ?_
    refine r_put (k := 1) (f := 1) kx_159_48 kp_159_78 (tk_1 hT) kf_8_1 rfl (by decide) (by decide) hI5 (ru_1_1 (by omega) (by omega)) (fun M6 hI6 u6 => ?_)
    have hFm6 := hFm5.up u6 rfl
    refine s_iload_n kx_159_51 rfl ?_
    exact s_iret kx_159_52 (Or.inl kq_159) ⟨_, _, rfl, rfl, hI6, hFm6, ⟨(Or.inl ⟨by omega, ((v4p.2.2).of (fun f => (fr2 61 _ rfl)) (fun f => (u6.2 61 _ (by omega))))⟩), u6.1⟩⟩
  · replace v1p := v1p.resolve_right (by omega)
    refine s_aload_n kx_159_23 rfl ?_
    refine r_getR (k := 0) (f := 6) (k2 := 54) kx_159_24 kp_159_54 (tk_0 hT) kf_11_6 (by decide) (rq_0_6 hI2) ?_
    refine s_aload_n kx_159_27 rfl ?_
    refine r_getR (k := 0) (f := 2) (k2 := 7) kx_159_28 kp_159_26 (tk_0 hT) kf_11_2 (by decide) (rq_0_2 hI2) ?_
    refine s_callV2 (k := 54) (s1 := 2) (s2 := 0) (as := [rf 7]) (rest := []) kx_159_31 kp_159_304 (Or.inl rfl) rfl (tk_54 hT) ki_83 kcl_83 rfl rfl (by decide) (m_83 (d := d) hT hI2 ht ((fr2 7 0 rfl).trans h70)) (kW (fun v7 M8 hI8 fr8 v7p => ?_))
    have hFm8 := hFm2.call fr8 rfl
    refine s_goto (t := 42) kx_159_34 (by decide) ?_
    refine s_istore_n kx_159_42 km_159_2 rfl ?_
    refine s_aload_n kx_159_43 rfl ?_
    refine r_getR (k := 0) (f := 0) (k2 := 1) kx_159_44 kp_159_10 (tk_0 hT) kf_11_0 (by decide) (rq_0_0 hI8) ?_
    refine s_iconst (v := 0) kx_159_47 (by decide) ?_
    refine r_put (k := 1) (f := 1) kx_159_48 kp_159_78 (tk_1 hT) kf_8_1 rfl (by decide) (by decide) hI8 (ru_1_1 (by omega) (by omega)) (fun M9 hI9 u9 => ?_)
    have hFm9 := hFm8.up u9 rfl
    refine s_iload_n kx_159_51 rfl ?_
    exact s_iret kx_159_52 (Or.inl kq_159) ⟨_, _, rfl, rfl, hI9, hFm9, ⟨(Or.inr ⟨by omega, (fun f => ((u9.2 61 _ (by omega)).trans ((fr8 61 _ rfl).trans (fr2 61 _ rfl))))⟩), u9.1⟩⟩
