def ngC_147_m : List (Nat × Nat) := [(0, 12), (20, 99999), (23, 99999), (37, 99999), (40, 99999), (42, 99999), (43, 99999), (44, 1), (44, 2), (45, 99999), (61, 99999)]
theorem n_147 {xs : Nat → Int} {Ln d : Nat} {T : List cK} {M : cM} (hT : TT T) (hI : Rng M) {t : Nat} (ht : t = 8 ∨ t = 25) (h70 : M 7 0 = ((t : Nat) : Int)) (hN : Fm T M) {person room chair : Int} {D S : cM} (hC : CR D S t M) {H : Nat → cM} {hc : Int} (hH : CH D H hc M) : cC k_P xs Ln (d + 6) 147 [rf 0, (0, person), (0, room), (0, chair)] (T, M) (qW T M ngC_147_m 0 (fun v M1 => (((v = -1 ∧ pCg D S person room chair = 0) ∧ RFn 2 (M 61) (M1 61)) ∧ CR D S t M1 ∧ CH D H hc M1) ∨ (((pCg D S person room chair = 1) ∧ R0n (M 61) (M1 61)) ∧ CR D (pMv D S person room chair) t M1 ∧ CH D (pPh S H) (pC1 hc) M1))) := by
  show cP k_P xs Ln (d + 6) 147 0 [(0, rf 0), (1, (0, person)), (2, (0, room)), (3, (0, chair))] [] (T, M) _
  have hFm : Fr ngC_147_m M M := Fr.refl
  have hD := hC.2.1
  have hDr := hD.rg
  have hSW := hC.2.2.2.2
  refine s_aload_n kx_147_0 rfl ?_
  refine r_getR (k := 0) (f := 2) (k2 := 7) kx_147_1 kp_147_26 (tk_0 hT) kf_11_2 (by decide) (rq_0_2 hI) ?_
  refine s_iload_n kx_147_4 rfl ?_
  refine s_iload_n kx_147_5 rfl ?_
  refine s_iload_n kx_147_6 rfl ?_
  refine s_callV2 (k := 7) (s1 := 4) (s2 := 0) (as := [(0, chair), (0, room), (0, person)]) (rest := []) kx_147_7 kp_147_228 (Or.inl rfl) rfl (tk_7 hT) ki_61 kcl_61 rfl rfl (by decide) (g_61 (d := d) (person := person) (to := room) (chair := chair) hT hI ht h70 hN hC) (kW (fun v1 M2 hI2 fr2 v1p => ?_))
  have hFm2 := hFm.call fr2 rfl
  have hc3 := (CR.fr hC fr2 ht rfl)
  have hc4 := (CH.fr hH fr2 rfl)
  refine s_istore kx_147_10 km_147_4 rfl ?_
  refine s_iload kx_147_12 rfl ?_
  refine s_iconst (v := (-1)) kx_147_14 (by decide) ?_
  refine s_icmp_ne (t := 24) kx_147_15 (by decide) (fun hc5 => ?_) (fun hc5 => ?_)
  · refine s_aload_n kx_147_24 rfl ?_
    refine r_getR (k := 0) (f := 3) (k2 := 44) kx_147_25 kp_147_33 (tk_0 hT) kf_11_3 (by decide) (rq_0_3 hI2) ?_
    refine s_aload_n kx_147_28 rfl ?_
    refine r_getR (k := 0) (f := 2) (k2 := 7) kx_147_29 kp_147_26 (tk_0 hT) kf_11_2 (by decide) (rq_0_2 hI2) ?_
    refine r_getR (k := 7) (f := 2) (k2 := 42) kx_147_32 kp_147_232 (tk_7 hT) kf_5_2 (by decide) (rq_7_2 hI2) ?_
    refine s_callV2 (k := 44) (s1 := 2) (s2 := 0) (as := [rf 42]) (rest := []) kx_147_35 kp_147_235 (Or.inl rfl) rfl (tk_44 hT) ki_16 kcl_16 rfl rfl (by decide) (g_16 (d := d + 4) hT hI2 ht ((fr2 7 0 rfl).trans h70) hc3 hc4) (kV (fun M7 hI7 fr7 v6p => ?_))
    have hFm7 := hFm2.call fr7 rfl
    have hc8 := v6p.1
    have hc9 := v6p.2
    refine s_aload_n kx_147_38 rfl ?_
    refine s_iload_n kx_147_39 rfl ?_
    refine s_iload_n kx_147_40 rfl ?_
    refine s_iload_n kx_147_41 rfl ?_
    refine s_iload kx_147_42 rfl ?_
    refine s_callV2 (k := 0) (s1 := 5) (s2 := 0) (as := [(0, v1), (0, chair), (0, room), (0, person)]) (rest := []) kx_147_44 kp_147_239 (Or.inl rfl) rfl (tk_0 hT) ki_169 kcl_169 rfl rfl (by decide) (g_169 (d := d + 2) (person := person) (room := room) (chair := chair) (minutes := v1) hT hI7 ht ((fr7 7 0 rfl).trans ((fr2 7 0 rfl).trans h70)) hc8 (by omega) (by omega) (by omega) (by omega) (by omega) (by omega)) (kV (fun M11 hI11 fr11 v10p => ?_))
    have hFm11 := hFm7.call fr11 rfl
    have hc12 := v10p
    have hc13 := (CH.fr hc9 fr11 rfl)
    refine s_aload_n kx_147_47 rfl ?_
    refine r_getR (k := 0) (f := 2) (k2 := 7) kx_147_48 kp_147_26 (tk_0 hT) kf_11_2 (by decide) (rq_0_2 hI11) ?_
    refine s_iload_n kx_147_51 rfl ?_
    refine s_callV2 (k := 7) (s1 := 2) (s2 := 0) (as := [(0, person)]) (rest := []) kx_147_52 kp_147_203 (Or.inl rfl) rfl (tk_7 hT) ki_46 kcl_46 rfl rfl (by decide) (m_46 (d := d + 5) (person := person) hT hI11 (by omega)) (kF (fun v14 v14p => ?_))
    exact s_iret kx_147_55 (Or.inl kq_147) ⟨_, _, rfl, rfl, hI11, hFm11, (Or.inr ⟨⟨by omega, (fun f => ((fr11 61 _ rfl).trans ((fr7 61 _ rfl).trans (fr2 61 _ rfl))))⟩, hc12, hc13⟩)⟩
  · refine s_aload_n kx_147_18 rfl ?_
    refine s_iconst (v := 2) kx_147_19 (by decide) ?_
    refine s_callV2 (k := 0) (s1 := 2) (s2 := 0) (as := [(0, 2)]) (rest := []) kx_147_20 kp_147_81 (Or.inl rfl) rfl (tk_0 hT) ki_165 kcl_165 rfl rfl (by decide) (n_165 (d := d + 5) (kind := 2) hT hI2 (by omega)) (kW (fun v15 M16 hI16 fr16 v15p => ?_))
    have hFm16 := hFm2.call fr16 rfl
    have hc17 := (CR.fr hc3 fr16 ht rfl)
    have hc18 := (CH.fr hc4 fr16 rfl)
    exact s_iret kx_147_23 (Or.inl kq_147) ⟨_, _, rfl, rfl, hI16, hFm16, (Or.inl ⟨⟨by omega, ((v15p.2.2).of (fun f => (fr2 61 _ rfl)) (fun f => rfl))⟩, hc17, hc18⟩)⟩
def ngC_148_m : List (Nat × Nat) := [(20, 99999), (23, 99999), (37, 99999), (40, 99999), (42, 99999), (43, 99999), (44, 1), (44, 2), (45, 99999), (61, 99999)]
theorem n_148 {xs : Nat → Int} {Ln d : Nat} {T : List cK} {M : cM} (hT : TT T) (hI : Rng M) {t : Nat} (ht : t = 8 ∨ t = 25) (h70 : M 7 0 = ((t : Nat) : Int)) (hN : Fm T M) {person n : Int} {D S : cM} (hC : CR D S t M) {H : Nat → cM} {hc : Int} (hH : CH D H hc M) : cC k_P xs Ln (d + 5) 148 [rf 0, (0, person), (0, n)] (T, M) (qW T M ngC_148_m 0 (fun v M1 => (((v = -1 ∧ ¬ (0 ≤ person ∧ person < D 0 1 ∧ 1 ≤ n ∧ n ≤ 999)) ∧ RFn 2 (M 61) (M1 61)) ∧ CR D S t M1 ∧ CH D H hc M1) ∨ (((0 ≤ person ∧ person < D 0 1 ∧ 1 ≤ n ∧ n ≤ 999) ∧ R0n (M 61) (M1 61)) ∧ CR D S t M1 ∧ CH D (pPh S H) (pC1 hc) M1))) := by
  show cP k_P xs Ln (d + 5) 148 0 [(0, rf 0), (1, (0, person)), (2, (0, n))] [] (T, M) _
  have hFm : Fr ngC_148_m M M := Fr.refl
  have hD := hC.2.1
  have hDr := hD.rg
  have hSW := hC.2.2.2.2
  refine s_aload_n kx_148_0 rfl ?_
  refine r_getR (k := 0) (f := 2) (k2 := 7) kx_148_1 kp_148_26 (tk_0 hT) kf_11_2 (by decide) (rq_0_2 hI) ?_
  refine r_getR (k := 7) (f := 0) (k2 := t) kx_148_4 kp_148_120 (tk_7 hT) kf_5_0 (by decide) h70 ?_
  refine s_iload_n kx_148_7 rfl ?_
  refine s_callV2 (k := t) (s1 := 2) (s2 := 0) (as := [(0, person)]) (rest := []) kx_148_8 kp_148_164 (Or.inl rfl) rfl (tkt_0 hT ht) ki_107 kcl_107 rfl rfl (by decide) (g_107 (d := d + 4) (person := person) hT hI ht h70 hC) (kF (fun v1 v1p => ?_))
  refine s_if_eq (t := 26) kx_148_11 (by decide) (fun hc2 => ?_) (fun hc2 => ?_)
  · replace v1p := v1p.resolve_left (by omega)
    refine s_aload_n kx_148_26 rfl ?_
    refine s_iconst (v := 2) kx_148_27 (by decide) ?_
    refine s_callV2 (k := 0) (s1 := 2) (s2 := 0) (as := [(0, 2)]) (rest := []) kx_148_28 kp_148_81 (Or.inl rfl) rfl (tk_0 hT) ki_165 kcl_165 rfl rfl (by decide) (n_165 (d := d + 4) (kind := 2) hT hI (by omega)) (kW (fun v3 M4 hI4 fr4 v3p => ?_))
    have hFm4 := hFm.call fr4 rfl
    have hc5 := (CR.fr hC fr4 ht rfl)
    have hc6 := (CH.fr hH fr4 rfl)
    exact s_iret kx_148_31 (Or.inl kq_148) ⟨_, _, rfl, rfl, hI4, hFm4, (Or.inl ⟨⟨by omega, ((v3p.2.2).of (fun f => rfl) (fun f => rfl))⟩, hc5, hc6⟩)⟩
  · replace v1p := v1p.resolve_right (by omega)
    refine s_iload_n kx_148_14 rfl ?_
    refine s_iconst (v := 1) kx_148_15 (by decide) ?_
    refine s_icmp_lt (t := 26) kx_148_16 (by decide) (fun hc7 => ?_) (fun hc7 => ?_)
    · refine s_aload_n kx_148_26 rfl ?_
      refine s_iconst (v := 2) kx_148_27 (by decide) ?_
      refine s_callV2 (k := 0) (s1 := 2) (s2 := 0) (as := [(0, 2)]) (rest := []) kx_148_28 kp_148_81 (Or.inl rfl) rfl (tk_0 hT) ki_165 kcl_165 rfl rfl (by decide) (n_165 (d := d + 4) (kind := 2) hT hI (by omega)) (kW (fun v8 M9 hI9 fr9 v8p => ?_))
      have hFm9 := hFm.call fr9 rfl
      have hc10 := (CR.fr hC fr9 ht rfl)
      have hc11 := (CH.fr hH fr9 rfl)
      exact s_iret kx_148_31 (Or.inl kq_148) ⟨_, _, rfl, rfl, hI9, hFm9, (Or.inl ⟨⟨by omega, ((v8p.2.2).of (fun f => rfl) (fun f => rfl))⟩, hc10, hc11⟩)⟩
    · refine s_iload_n kx_148_19 rfl ?_
      refine s_sipush (v := 999) kx_148_20 (by decide) ?_
      refine s_icmp_le (t := 32) kx_148_23 (by decide) (fun hc12 => ?_) (fun hc12 => ?_)
      · refine s_aload_n kx_148_32 rfl ?_
        refine r_getR (k := 0) (f := 3) (k2 := 44) kx_148_33 kp_148_33 (tk_0 hT) kf_11_3 (by decide) (rq_0_3 hI) ?_
        refine s_aload_n kx_148_36 rfl ?_
        refine r_getR (k := 0) (f := 2) (k2 := 7) kx_148_37 kp_148_26 (tk_0 hT) kf_11_2 (by decide) (rq_0_2 hI) ?_
        refine r_getR (k := 7) (f := 2) (k2 := 42) kx_148_40 kp_148_232 (tk_7 hT) kf_5_2 (by decide) (rq_7_2 hI) ?_
        refine s_callV2 (k := 44) (s1 := 2) (s2 := 0) (as := [rf 42]) (rest := []) kx_148_43 kp_148_235 (Or.inl rfl) rfl (tk_44 hT) ki_16 kcl_16 rfl rfl (by decide) (g_16 (d := d + 3) hT hI ht h70 hC hH) (kV (fun M14 hI14 fr14 v13p => ?_))
        have hFm14 := hFm.call fr14 rfl
        have hc15 := v13p.1
        have hc16 := v13p.2
        refine s_aload_n kx_148_46 rfl ?_
        refine r_getR (k := 0) (f := 2) (k2 := 7) kx_148_47 kp_148_26 (tk_0 hT) kf_11_2 (by decide) (rq_0_2 hI14) ?_
        refine s_iload_n kx_148_50 rfl ?_
        refine s_iload_n kx_148_51 rfl ?_
        refine s_callV2 (k := 7) (s1 := 3) (s2 := 0) (as := [(0, n), (0, person)]) (rest := []) kx_148_52 kp_148_243 (Or.inl rfl) rfl (tk_7 hT) ki_69 kcl_69 rfl rfl (by decide) (g_69 (d := d) (person := person) (minutes := n) hT hI14 ht ((fr14 7 0 rfl).trans h70) (hN.fr hFm14 rfl) hc15 (by omega) (by omega)) (kV (fun M18 hI18 fr18 v17p => ?_))
        have hFm18 := hFm14.call fr18 rfl
        have hc19 := v17p
        have hc20 := (CH.fr hc16 fr18 rfl)
        refine s_aload_n kx_148_55 rfl ?_
        refine r_getR (k := 0) (f := 2) (k2 := 7) kx_148_56 kp_148_26 (tk_0 hT) kf_11_2 (by decide) (rq_0_2 hI18) ?_
        refine s_iload_n kx_148_59 rfl ?_
        refine s_callV2 (k := 7) (s1 := 2) (s2 := 0) (as := [(0, person)]) (rest := []) kx_148_60 kp_148_206 (Or.inl rfl) rfl (tk_7 hT) ki_47 kcl_47 rfl rfl (by decide) (m_47 (d := d + 4) (person := person) hT hI18 (by omega)) (kF (fun v21 v21p => ?_))
        exact s_iret kx_148_63 (Or.inl kq_148) ⟨_, _, rfl, rfl, hI18, hFm18, (Or.inr ⟨⟨by omega, (fun f => ((fr18 61 _ rfl).trans (fr14 61 _ rfl)))⟩, hc19, hc20⟩)⟩
      · refine s_aload_n kx_148_26 rfl ?_
        refine s_iconst (v := 2) kx_148_27 (by decide) ?_
        refine s_callV2 (k := 0) (s1 := 2) (s2 := 0) (as := [(0, 2)]) (rest := []) kx_148_28 kp_148_81 (Or.inl rfl) rfl (tk_0 hT) ki_165 kcl_165 rfl rfl (by decide) (n_165 (d := d + 4) (kind := 2) hT hI (by omega)) (kW (fun v22 M23 hI23 fr23 v22p => ?_))
        have hFm23 := hFm.call fr23 rfl
        have hc24 := (CR.fr hC fr23 ht rfl)
        have hc25 := (CH.fr hH fr23 rfl)
        exact s_iret kx_148_31 (Or.inl kq_148) ⟨_, _, rfl, rfl, hI23, hFm23, (Or.inl ⟨⟨by omega, ((v22p.2.2).of (fun f => rfl) (fun f => rfl))⟩, hc24, hc25⟩)⟩
def ngC_149_m : List (Nat × Nat) := [(42, 99999), (44, 1), (44, 2), (45, 99999), (61, 99999)]
theorem n_149 {xs : Nat → Int} {Ln d : Nat} {T : List cK} {M : cM} (hT : TT T) (hI : Rng M) {t : Nat} (ht : t = 8 ∨ t = 25) (h70 : M 7 0 = ((t : Nat) : Int)) {person chair : Int} {D S : cM} (hC : CR D S t M) {H : Nat → cM} {hc : Int} (hH : CH D H hc M) : cC k_P xs Ln (d + 3) 149 [rf 0, (0, person), (0, chair)] (T, M) (qW T M ngC_149_m 0 (fun v M1 => (((v = 0 ∧ pCm D S person chair = 0) ∧ RFn 3 (M 61) (M1 61)) ∧ CR D S t M1 ∧ CH D H hc M1) ∨ (((v = 1 ∧ pCm D S person chair = 1) ∧ R0n (M 61) (M1 61)) ∧ CR D (c_up S 2 chair.toNat 0) t M1 ∧ CH D (pPh S H) (pC1 hc) M1))) := by
  show cP k_P xs Ln (d + 3) 149 0 [(0, rf 0), (1, (0, person)), (2, (0, chair))] [] (T, M) _
  have hFm : Fr ngC_149_m M M := Fr.refl
  have hD := hC.2.1
  have hDr := hD.rg
  have hSW := hC.2.2.2.2
  refine s_aload_n kx_149_0 rfl ?_
  refine r_getR (k := 0) (f := 2) (k2 := 7) kx_149_1 kp_149_26 (tk_0 hT) kf_11_2 (by decide) (rq_0_2 hI) ?_
  refine s_iload_n kx_149_4 rfl ?_
  refine s_iload_n kx_149_5 rfl ?_
  refine s_callV2 (k := 7) (s1 := 3) (s2 := 0) (as := [(0, chair), (0, person)]) (rest := []) kx_149_6 kp_149_247 (Or.inl rfl) rfl (tk_7 hT) ki_70 kcl_70 rfl rfl (by decide) (g_70 (d := d + 1) (person := person) (chair := chair) hT hI ht h70 hC) (kF (fun v1 v1p => ?_))
  refine s_if_ne (t := 20) kx_149_9 (by decide) (fun hc2 => ?_) (fun hc2 => ?_)
  · replace v1p := v1p.resolve_right (by omega)
    refine s_aload_n kx_149_20 rfl ?_
    refine r_getR (k := 0) (f := 3) (k2 := 44) kx_149_21 kp_149_33 (tk_0 hT) kf_11_3 (by decide) (rq_0_3 hI) ?_
    refine s_aload_n kx_149_24 rfl ?_
    refine r_getR (k := 0) (f := 2) (k2 := 7) kx_149_25 kp_149_26 (tk_0 hT) kf_11_2 (by decide) (rq_0_2 hI) ?_
    refine r_getR (k := 7) (f := 2) (k2 := 42) kx_149_28 kp_149_232 (tk_7 hT) kf_5_2 (by decide) (rq_7_2 hI) ?_
    refine s_callV2 (k := 44) (s1 := 2) (s2 := 0) (as := [rf 42]) (rest := []) kx_149_31 kp_149_235 (Or.inl rfl) rfl (tk_44 hT) ki_16 kcl_16 rfl rfl (by decide) (g_16 (d := d + 1) hT hI ht h70 hC hH) (kV (fun M4 hI4 fr4 v3p => ?_))
    have hFm4 := hFm.call fr4 rfl
    have hc5 := v3p.1
    have hc6 := v3p.2
    refine s_aload_n kx_149_34 rfl ?_
    refine r_getR (k := 0) (f := 2) (k2 := 7) kx_149_35 kp_149_26 (tk_0 hT) kf_11_2 (by decide) (rq_0_2 hI4) ?_
    refine s_iload_n kx_149_38 rfl ?_
    refine s_iload_n kx_149_39 rfl ?_
    refine s_callV2 (k := 7) (s1 := 3) (s2 := 0) (as := [(0, chair), (0, person)]) (rest := []) kx_149_40 kp_149_250 (Or.inl rfl) rfl (tk_7 hT) ki_71 kcl_71 rfl rfl (by decide) (g_71 (d := d) (person := person) (chair := chair) hT hI4 ht ((fr4 7 0 rfl).trans h70) hc5 (by omega) (by omega) (by omega)) (kV (fun M8 hI8 fr8 v7p => ?_))
    have hFm8 := hFm4.call fr8 rfl
    have hc9 := v7p
    have hc10 := (CH.fr hc6 fr8 rfl)
    refine s_iconst (v := 1) kx_149_43 (by decide) ?_
    exact s_iret kx_149_44 (Or.inr ⟨kq_149, by omega⟩) ⟨_, _, rfl, rfl, hI8, hFm8, (Or.inr ⟨⟨by omega, (fun f => ((fr8 61 _ rfl).trans (fr4 61 _ rfl)))⟩, hc9, hc10⟩)⟩
  · replace v1p := v1p.resolve_left (by omega)
    refine s_aload_n kx_149_12 rfl ?_
    refine s_iconst (v := 3) kx_149_13 (by decide) ?_
    refine s_callV2 (k := 0) (s1 := 2) (s2 := 0) (as := [(0, 3)]) (rest := []) kx_149_14 kp_149_81 (Or.inl rfl) rfl (tk_0 hT) ki_165 kcl_165 rfl rfl (by decide) (n_165 (d := d + 2) (kind := 3) hT hI (by omega)) (kW (fun v11 M12 hI12 fr12 v11p => ?_))
    have hFm12 := hFm.call fr12 rfl
    have hc13 := (CR.fr hC fr12 ht rfl)
    have hc14 := (CH.fr hH fr12 rfl)
    refine s_pop kx_149_17 rfl ?_
    refine s_iconst (v := 0) kx_149_18 (by decide) ?_
    exact s_iret kx_149_19 (Or.inr ⟨kq_149, by omega⟩) ⟨_, _, rfl, rfl, hI12, hFm12, (Or.inl ⟨⟨by omega, ((v11p.2.2).of (fun f => rfl) (fun f => rfl))⟩, hc13, hc14⟩)⟩
def ngC_151_m : List (Nat × Nat) := [(42, 99999), (44, 1), (44, 2), (61, 99999)]
theorem n_151 {xs : Nat → Int} {Ln d : Nat} {T : List cK} {M : cM} (hT : TT T) (hI : Rng M) {t : Nat} (ht : t = 8 ∨ t = 25) (h70 : M 7 0 = ((t : Nat) : Int)) {D S : cM} (hC : CR D S t M) {H : Nat → cM} {hc : Int} (hH : CH D H hc M) : cC k_P xs Ln (d + 2) 151 [rf 0] (T, M) (qW T M ngC_151_m 0 (fun v M1 => (((v = 0 ∧ hc = 0) ∧ RFn 4 (M 61) (M1 61)) ∧ CR D S t M1 ∧ CH D H hc M1) ∨ (((v = 1 ∧ hc ≠ 0) ∧ R0n (M 61) (M1 61)) ∧ CR D (pUn S (H 0)) t M1 ∧ CH D (fun k => H (k + 1)) (hc - 1) M1))) := by
  show cP k_P xs Ln (d + 2) 151 0 [(0, rf 0)] [] (T, M) _
  have hFm : Fr ngC_151_m M M := Fr.refl
  have hD := hC.2.1
  have hDr := hD.rg
  have hSW := hC.2.2.2.2
  have hHc := hH.1
  refine s_aload_n kx_151_0 rfl ?_
  refine r_getR (k := 0) (f := 3) (k2 := 44) kx_151_1 kp_151_33 (tk_0 hT) kf_11_3 (by decide) (rq_0_3 hI) ?_
  refine r_getU (k := 44) (f := 2) kx_151_4 kp_151_110 (tk_44 hT) kf_2_2 (fun _ => rfl) (fun v1 v1e => ?_)
  refine s_if_ne (t := 18) kx_151_7 (by decide) (fun hc2 => ?_) (fun hc2 => ?_)
  · refine s_aload_n kx_151_18 rfl ?_
    refine r_getR (k := 0) (f := 3) (k2 := 44) kx_151_19 kp_151_33 (tk_0 hT) kf_11_3 (by decide) (rq_0_3 hI) ?_
    refine s_aload_n kx_151_22 rfl ?_
    refine r_getR (k := 0) (f := 2) (k2 := 7) kx_151_23 kp_151_26 (tk_0 hT) kf_11_2 (by decide) (rq_0_2 hI) ?_
    refine r_getR (k := 7) (f := 2) (k2 := 42) kx_151_26 kp_151_232 (tk_7 hT) kf_5_2 (by decide) (rq_7_2 hI) ?_
    refine s_callV2 (k := 44) (s1 := 2) (s2 := 0) (as := [rf 42]) (rest := []) kx_151_29 kp_151_256 (Or.inl rfl) rfl (tk_44 hT) ki_17 kcl_17 rfl rfl (by decide) (g_17 (d := d) hT hI ht h70 hC hH (by omega)) (kV (fun M4 hI4 fr4 v3p => ?_))
    have hFm4 := hFm.call fr4 rfl
    have hc5 := v3p.1
    have hc6 := v3p.2
    refine s_iconst (v := 1) kx_151_32 (by decide) ?_
    exact s_iret kx_151_33 (Or.inr ⟨kq_151, by omega⟩) ⟨_, _, rfl, rfl, hI4, hFm4, (Or.inr ⟨⟨by omega, (fun f => (fr4 61 _ rfl))⟩, hc5, hc6⟩)⟩
  · refine s_aload_n kx_151_10 rfl ?_
    refine s_iconst (v := 4) kx_151_11 (by decide) ?_
    refine s_callV2 (k := 0) (s1 := 2) (s2 := 0) (as := [(0, 4)]) (rest := []) kx_151_12 kp_151_81 (Or.inl rfl) rfl (tk_0 hT) ki_165 kcl_165 rfl rfl (by decide) (n_165 (d := d + 1) (kind := 4) hT hI (by omega)) (kW (fun v7 M8 hI8 fr8 v7p => ?_))
    have hFm8 := hFm.call fr8 rfl
    have hc9 := (CR.fr hC fr8 ht rfl)
    have hc10 := (CH.fr hH fr8 rfl)
    refine s_pop kx_151_15 rfl ?_
    refine s_iconst (v := 0) kx_151_16 (by decide) ?_
    exact s_iret kx_151_17 (Or.inr ⟨kq_151, by omega⟩) ⟨_, _, rfl, rfl, hI8, hFm8, (Or.inl ⟨⟨by omega, ((v7p.2.2).of (fun f => rfl) (fun f => rfl))⟩, hc9, hc10⟩)⟩
def ngC_152_m : List (Nat × Nat) := [(0, 12), (61, 99999)]
theorem n_152 {xs : Nat → Int} {Ln d : Nat} {T : List cK} {M : cM} (hT : TT T) (hI : Rng M) {t : Nat} (ht : t = 8 ∨ t = 25) (h70 : M 7 0 = ((t : Nat) : Int)) {seed : Int} {D S : cM} (hC : CR D S t M) {H : Nat → cM} {hc : Int} (hH : CH D H hc M) (p0 : seed ≤ 2147483647) : cC k_P xs Ln (d + 1) 152 [rf 0, (0, seed)] (T, M) (qW T M ngC_152_m 0 (fun v M1 => (((v = 0 ∧ seed < 0) ∧ RFn 5 (M 61) (M1 61)) ∧ CR D S t M1 ∧ CH D H hc M1) ∨ (((v = 1 ∧ 0 ≤ seed) ∧ R0n (M 61) (M1 61)) ∧ CR D (c_up S 3 0 seed) t M1 ∧ CH D H hc M1))) := by
  show cP k_P xs Ln (d + 1) 152 0 [(0, rf 0), (1, (0, seed))] [] (T, M) _
  have hFm : Fr ngC_152_m M M := Fr.refl
  have hD := hC.2.1
  have hDr := hD.rg
  have hSW := hC.2.2.2.2
  refine s_iload_n kx_152_0 rfl ?_
  refine s_if_ge (t := 12) kx_152_1 (by decide) (fun hc1 => ?_) (fun hc1 => ?_)
  · refine s_aload_n kx_152_12 rfl ?_
    refine s_iload_n kx_152_13 rfl ?_
    refine r_put (k := 0) (f := 12) kx_152_14 kp_152_75 (tk_0 hT) kf_11_12 rfl (by decide) (by decide) hI (ru_0_12 (by omega) (by omega)) (fun M2 hI2 u2 => ?_)
    have hFm2 := hFm.up u2 rfl
    have hc3 := (CR.u3 hC u2 ht)
    have hc4 := (CH.up hH u2 (by omega))
    refine s_iconst (v := 1) kx_152_17 (by decide) ?_
    exact s_iret kx_152_18 (Or.inr ⟨kq_152, by omega⟩) ⟨_, _, rfl, rfl, hI2, hFm2, (Or.inr ⟨⟨by omega, (fun f => (u2.2 61 _ (by omega)))⟩, hc3, hc4⟩)⟩
  · refine s_aload_n kx_152_4 rfl ?_
    refine s_iconst (v := 5) kx_152_5 (by decide) ?_
    refine s_callV2 (k := 0) (s1 := 2) (s2 := 0) (as := [(0, 5)]) (rest := []) kx_152_6 kp_152_81 (Or.inl rfl) rfl (tk_0 hT) ki_165 kcl_165 rfl rfl (by decide) (n_165 (d := d) (kind := 5) hT hI (by omega)) (kW (fun v5 M6 hI6 fr6 v5p => ?_))
    have hFm6 := hFm.call fr6 rfl
    have hc7 := (CR.fr hC fr6 ht rfl)
    have hc8 := (CH.fr hH fr6 rfl)
    refine s_pop kx_152_9 rfl ?_
    refine s_iconst (v := 0) kx_152_10 (by decide) ?_
    exact s_iret kx_152_11 (Or.inr ⟨kq_152, by omega⟩) ⟨_, _, rfl, rfl, hI6, hFm6, (Or.inl ⟨⟨by omega, ((v5p.2.2).of (fun f => rfl) (fun f => rfl))⟩, hc7, hc8⟩)⟩
def ngC_150_l35 : List (Nat × Nat) := [(0, 12), (20, 99999), (23, 99999), (37, 99999), (40, 99999), (42, 99999), (43, 99999)]
def ngC_150_l43 : List (Nat × Nat) := [(0, 12), (20, 99999), (23, 99999), (37, 99999), (40, 99999), (42, 99999), (43, 99999)]
def ngC_150_m : List (Nat × Nat) := [(0, 12), (20, 99999), (23, 99999), (37, 99999), (40, 99999), (42, 99999), (43, 99999), (44, 1), (44, 2), (45, 99999), (61, 99999)]
theorem n_150 {xs : Nat → Int} {Ln d : Nat} {T : List cK} {M : cM} (hT : TT T) (hI : Rng M) {t : Nat} (ht : t = 8 ∨ t = 25) (h70 : M 7 0 = ((t : Nat) : Int)) (hN : Fm T M) {n : Int} {D S : cM} (hC : CR D S t M) {H : Nat → cM} {hc : Int} (hH : CH D H hc M) : cC k_P xs Ln (d + 7) 150 [rf 0, (0, n)] (T, M) (qW T M ngC_150_m 0 (fun v M1 => (((v = -1 ∧ ¬ (1 ≤ n ∧ n ≤ 30)) ∧ RFn 3 (M 61) (M1 61)) ∧ CR D S t M1 ∧ CH D H hc M1) ∨ (((v = pDsB D S n.toNat ∧ (1 ≤ n ∧ n ≤ 30)) ∧ R0n (M 61) (M1 61)) ∧ CR D (pDs D S n.toNat) t M1 ∧ CH D (pPh S H) (pC1 hc) M1))) := by
  show cP k_P xs Ln (d + 7) 150 0 [(0, rf 0), (1, (0, n))] [] (T, M) _
  have hFm : Fr ngC_150_m M M := Fr.refl
  have hD := hC.2.1
  have hDr := hD.rg
  have hSW := hC.2.2.2.2
  refine s_iload_n kx_150_0 rfl ?_
  refine s_iconst (v := 1) kx_150_1 (by decide) ?_
  refine s_icmp_lt (t := 11) kx_150_2 (by decide) (fun hc1 => ?_) (fun hc1 => ?_)
  · refine s_aload_n kx_150_11 rfl ?_
    refine s_iconst (v := 3) kx_150_12 (by decide) ?_
    refine s_callV2 (k := 0) (s1 := 2) (s2 := 0) (as := [(0, 3)]) (rest := []) kx_150_13 kp_150_81 (Or.inl rfl) rfl (tk_0 hT) ki_165 kcl_165 rfl rfl (by decide) (n_165 (d := d + 6) (kind := 3) hT hI (by omega)) (kW (fun v2 M3 hI3 fr3 v2p => ?_))
    have hFm3 := hFm.call fr3 rfl
    have hc4 := (CR.fr hC fr3 ht rfl)
    have hc5 := (CH.fr hH fr3 rfl)
    exact s_iret kx_150_16 (Or.inl kq_150) ⟨_, _, rfl, rfl, hI3, hFm3, (Or.inl ⟨⟨by omega, ((v2p.2.2).of (fun f => rfl) (fun f => rfl))⟩, hc4, hc5⟩)⟩
  · refine s_iload_n kx_150_5 rfl ?_
    refine s_bipush (v := 30) kx_150_6 (by decide) ?_
    refine s_icmp_le (t := 17) kx_150_8 (by decide) (fun hc6 => ?_) (fun hc6 => ?_)
    · refine s_aload_n kx_150_17 rfl ?_
      refine r_getR (k := 0) (f := 3) (k2 := 44) kx_150_18 kp_150_33 (tk_0 hT) kf_11_3 (by decide) (rq_0_3 hI) ?_
      refine s_aload_n kx_150_21 rfl ?_
      refine r_getR (k := 0) (f := 2) (k2 := 7) kx_150_22 kp_150_26 (tk_0 hT) kf_11_2 (by decide) (rq_0_2 hI) ?_
      refine r_getR (k := 7) (f := 2) (k2 := 42) kx_150_25 kp_150_232 (tk_7 hT) kf_5_2 (by decide) (rq_7_2 hI) ?_
      refine s_callV2 (k := 44) (s1 := 2) (s2 := 0) (as := [rf 42]) (rest := []) kx_150_28 kp_150_235 (Or.inl rfl) rfl (tk_44 hT) ki_16 kcl_16 rfl rfl (by decide) (g_16 (d := d + 5) hT hI ht h70 hC hH) (kV (fun M8 hI8 fr8 v7p => ?_))
      have hFm8 := hFm.call fr8 rfl
      have hc9 := v7p.1
      have hc10 := v7p.2
      refine s_iconst (v := 0) kx_150_31 (by decide) ?_
      refine s_istore_n kx_150_32 km_150_2 rfl ?_
      refine s_iconst (v := 0) kx_150_33 (by decide) ?_
      refine s_istore_n kx_150_34 km_150_3 rfl ?_
      have key14 : ∀ n15 : Nat, ∀ (x2_11 x3_12 : Int), ∀ M13 : cM, Rng M13 → Fr ngC_150_m M M13 → Fr ngC_150_l35 M8 M13 → (0 ≤ x2_11) → (x2_11 ≤ 240) → (0 ≤ x3_12) → (x3_12 ≤ 30) → (x2_11 = pDsB D S (x3_12).toNat) → (0 ≤ x2_11) → (x2_11 ≤ 8 * x3_12) → (x3_12 ≤ n) → (CR D (pDs D S (x3_12).toNat) t M13) → (CH D (pPh S H) (pC1 hc) M13) → (2147483647 - x3_12).toNat < n15 → cP k_P xs Ln (d + 7) 150 35 [(0, rf 0), (1, (0, n)), (2, (0, x2_11)), (3, (0, x3_12))] [] (T, M13) (qW T M ngC_150_m 0 (fun v M1 => (((v = -1 ∧ ¬ (1 ≤ n ∧ n ≤ 30)) ∧ RFn 3 (M 61) (M1 61)) ∧ CR D S t M1 ∧ CH D H hc M1) ∨ (((v = pDsB D S n.toNat ∧ (1 ≤ n ∧ n ≤ 30)) ∧ R0n (M 61) (M1 61)) ∧ CR D (pDs D S n.toNat) t M1 ∧ CH D (pPh S H) (pC1 hc) M1))) := by
        intro n15
        induction n15 with
        | zero => intro x2_11 x3_12 M13 hI13 hFm13 fl13 i16 i17 i18 i19 i20 i21 i22 i23 i24 i25 hm26; exact absurd hm26 (Nat.not_lt_zero _)
        | succ n15 ih27 =>
          intro x2_11 x3_12 M13 hI13 hFm13 fl13 i16 i17 i18 i19 i20 i21 i22 i23 i24 i25 hm26
          refine s_iload_n kx_150_35 rfl ?_
          refine s_iload_n kx_150_36 rfl ?_
          refine s_icmp_ge (t := 79) kx_150_37 (by decide) (fun hc28 => ?_) (fun hc28 => ?_)
          · refine s_iload_n kx_150_79 rfl ?_
            exact s_iret kx_150_80 (Or.inl kq_150) ⟨_, _, rfl, rfl, hI13, hFm13, (by have hz : x3_12 = n := (by omega); rw [← hz]; exact Or.inr ⟨⟨⟨i20, by omega⟩, (fun f => ((fl13 61 _ rfl).trans (fr8 61 _ rfl)))⟩, i24, i25⟩)⟩
          · refine s_iconst (v := 0) kx_150_40 (by decide) ?_
            refine s_istore kx_150_41 km_150_4 rfl ?_
            have key32 : ∀ n33 : Nat, ∀ (x2_29 x4_30 : Int), ∀ M31 : cM, Rng M31 → Fr ngC_150_m M M31 → Fr ngC_150_l35 M8 M31 → Fr ngC_150_l43 M13 M31 → (0 ≤ x2_29) → (x2_29 ≤ 248) → (0 ≤ x4_30) → (x4_30 ≤ 8) → (x2_29 = pDsB D S (x3_12).toNat + pPpB D (pDs D S (x3_12).toNat) (x4_30).toNat) → (x2_29 ≤ 8 * x3_12 + x4_30) → (x4_30 ≤ D 0 1) → (CR D (pPp D (pDs D S (x3_12).toNat) (x4_30).toNat) t M31) → (CH D (pPh S H) (pC1 hc) M31) → (2147483647 - x4_30).toNat < n33 → cP k_P xs Ln (d + 7) 150 43 [(0, rf 0), (1, (0, n)), (2, (0, x2_29)), (3, (0, x3_12)), (4, (0, x4_30))] [] (T, M31) (qW T M ngC_150_m 0 (fun v M1 => (((v = -1 ∧ ¬ (1 ≤ n ∧ n ≤ 30)) ∧ RFn 3 (M 61) (M1 61)) ∧ CR D S t M1 ∧ CH D H hc M1) ∨ (((v = pDsB D S n.toNat ∧ (1 ≤ n ∧ n ≤ 30)) ∧ R0n (M 61) (M1 61)) ∧ CR D (pDs D S n.toNat) t M1 ∧ CH D (pPh S H) (pC1 hc) M1))) := by
              intro n33
              induction n33 with
              | zero => intro x2_29 x4_30 M31 hI31 hFm31 hFl3531 fl31 i34 i35 i36 i37 i38 i39 i40 i41 i42 hm43; exact absurd hm43 (Nat.not_lt_zero _)
              | succ n33 ih44 =>
                intro x2_29 x4_30 M31 hI31 hFm31 hFl3531 fl31 i34 i35 i36 i37 i38 i39 i40 i41 i42 hm43
                refine s_iload kx_150_43 rfl ?_
                refine s_aload_n kx_150_45 rfl ?_
                refine r_getR (k := 0) (f := 2) (k2 := 7) kx_150_46 kp_150_26 (tk_0 hT) kf_11_2 (by decide) (rq_0_2 hI31) ?_
                refine r_getR (k := 7) (f := 0) (k2 := t) kx_150_49 kp_150_120 (tk_7 hT) kf_5_0 (by decide) ((fl31 7 0 rfl).trans ((fl13 7 0 rfl).trans ((fr8 7 0 rfl).trans h70))) ?_
                refine r_getI (k := t) (f := 1) kx_150_52 kp_150_128 (tkt_0 hT ht) kf_9_1 (fun _ => rfl) (rgt_0_1 hI31 ht) (fun v45 v45e v45a v45b => ?_)
                have v45d : D 0 1 = v45 := ((i41).1 0 1 (by decide)).symm.trans v45e
                have v45z : M t 1 = v45 := (((fl31 t 1 (by rcases ht with rfl | rfl <;> rfl)).trans ((fl13 t 1 (by rcases ht with rfl | rfl <;> rfl)).trans (fr8 t 1 (by rcases ht with rfl | rfl <;> rfl))))).symm.trans v45e
                refine s_icmp_ge (t := 73) kx_150_55 (by decide) (fun hc46 => ?_) (fun hc46 => ?_)
                · refine r_iinc kx_150_73 rfl km_150_3 (by decide) ⟨by omega, by omega⟩ rfl ?_
                  refine s_goto (t := 35) kx_150_76 (by decide) ?_
                  have hds := pDs_S (D := D) (S := S) (x := x3_12) (by omega); have hz4 : x4_30 = D 0 1 := (by omega); have heq := i38; rw [hz4] at heq; have hc47 : CR D (pDs D S (x3_12 + 1).toNat) t M31 := by rw [hds.1, ← hz4]; exact i41
                  exact cP.wk (lS1 rfl (lS1 rfl (lS1 rfl (lS1 rfl lS0)))) (ih27 x2_29 (x3_12 + 1) M31 hI31 hFm31 hFl3531 (by omega) (by omega) (by omega) (by omega) (by omega) (by omega) (by omega) (by omega) hc47 i42 (by omega))
                · refine s_iload_n kx_150_58 rfl ?_
                  refine s_aload_n kx_150_59 rfl ?_
                  refine s_iload kx_150_60 rfl ?_
                  refine s_callV2 (k := 0) (s1 := 2) (s2 := 1) (as := [(0, x4_30)]) (rest := [(0, x2_29)]) kx_150_62 kp_150_253 (Or.inl rfl) rfl (tk_0 hT) ki_170 kcl_170 rfl rfl (by decide) (g_170 (d := d) (person := x4_30) hT hI31 ht ((fl31 7 0 rfl).trans ((fl13 7 0 rfl).trans ((fr8 7 0 rfl).trans h70))) (hN.fr hFm31 rfl) i41 (by omega) (by omega)) (kW (fun v48 M49 hI49 fr49 v48p => ?_))
                  have hFm49 := hFm31.call fr49 rfl
                  have hFl3549 := hFl3531.call fr49 rfl
                  have hFl4349 := fl31.call fr49 rfl
                  have hc50 := v48p.2.2.2
                  have hc51 := (CH.fr i42 fr49 rfl)
                  refine r_add kx_150_65 ⟨by omega, by omega⟩ ?_
                  refine s_istore_n kx_150_66 km_150_2 rfl ?_
                  refine r_iinc kx_150_67 rfl km_150_4 (by decide) ⟨by omega, by omega⟩ rfl ?_
                  refine s_goto (t := 43) kx_150_70 (by decide) ?_
                  have hpp := pPp_S (D := D) (S := (pDs D S (x3_12).toNat)) (x := x4_30) (by omega); have hc52 : CR D (pPp D (pDs D S (x3_12).toNat) (x4_30 + 1).toNat) t M49 := by rw [hpp.1]; exact hc50
                  exact cP.wk (lS1 rfl (lS1 rfl (lS1 rfl (lS1 rfl (lS1 rfl lS0))))) (ih44 (x2_29 + v48) (x4_30 + 1) M49 hI49 hFm49 hFl3549 hFl4349 (by omega) (by omega) (by omega) (by omega) (by omega) (by omega) (by omega) hc52 hc51 (by omega))
            have hz1 : pPpB D (pDs D S (x3_12).toNat) (0 : Int).toNat = 0 := rfl
            exact cP.wk (lS1 rfl (lS1 rfl (lS1 rfl (lS1 rfl (lS1 rfl lS0))))) (key32 _ x2_11 0 M13 hI13 hFm13 fl13 Fr.refl (by omega) (by omega) (by omega) (by omega) (by omega) (by omega) (by omega) i24 i25 (Nat.lt_succ_self _))
      have hz0 : pDsB D S (0 : Int).toNat = 0 := rfl
      exact cP.wk (lS1 rfl (lS1 rfl (lS1 rfl (lS1 rfl lS0)))) (key14 _ 0 0 M8 hI8 hFm8 Fr.refl (by omega) (by omega) (by omega) (by omega) (by omega) (by omega) (by omega) (by omega) hc9 hc10 (Nat.lt_succ_self _))
    · refine s_aload_n kx_150_11 rfl ?_
      refine s_iconst (v := 3) kx_150_12 (by decide) ?_
      refine s_callV2 (k := 0) (s1 := 2) (s2 := 0) (as := [(0, 3)]) (rest := []) kx_150_13 kp_150_81 (Or.inl rfl) rfl (tk_0 hT) ki_165 kcl_165 rfl rfl (by decide) (n_165 (d := d + 6) (kind := 3) hT hI (by omega)) (kW (fun v53 M54 hI54 fr54 v53p => ?_))
      have hFm54 := hFm.call fr54 rfl
      have hc55 := (CR.fr hC fr54 ht rfl)
      have hc56 := (CH.fr hH fr54 rfl)
      exact s_iret kx_150_16 (Or.inl kq_150) ⟨_, _, rfl, rfl, hI54, hFm54, (Or.inl ⟨⟨by omega, ((v53p.2.2).of (fun f => rfl) (fun f => rfl))⟩, hc55, hc56⟩)⟩
def ngC_163_m : List (Nat × Nat) := [(1, 1), (42, 99999), (44, 2), (61, 99999)]
theorem n_163 {xs : Nat → Int} {Ln d : Nat} {T : List cK} {M : cM} (hT : TT T) (hI : Rng M) {t : Nat} (ht : t = 8 ∨ t = 25) (h70 : M 7 0 = ((t : Nat) : Int)) {D S : cM} (hC : CR D S t M) {H : Nat → cM} {hc : Int} (hH : CH D H hc M) {s : Nat → Int} (hs : M 2 = s) : cC k_P xs Ln (d + 2) 163 [rf 0] (T, M) (qW T M ngC_163_m 0 (fun v M1 => ((((v = 1 ∧ pIm D s (M 1 1) = 1) ∧ R0n (M 61) (M1 61)) ∧ CR D (pOk s S (D 0 1)) t M1 ∧ CH D H 0 M1) ∨ (((v = 0 ∧ pIm D s (M 1 1) = 0) ∧ RFn 5 (M 61) (M1 61)) ∧ CR D S t M1 ∧ CH D H hc M1)) ∧ M1 1 1 = 0)) := by
  show cP k_P xs Ln (d + 2) 163 0 [(0, rf 0)] [] (T, M) _
  have hFm : Fr ngC_163_m M M := Fr.refl
  have hD := hC.2.1
  have hDr := hD.rg
  have hSW := hC.2.2.2.2
  refine s_aload_n kx_163_0 rfl ?_
  refine r_getR (k := 0) (f := 2) (k2 := 7) kx_163_1 kp_163_26 (tk_0 hT) kf_11_2 (by decide) (rq_0_2 hI) ?_
  refine s_aload_n kx_163_4 rfl ?_
  refine r_getR (k := 0) (f := 0) (k2 := 1) kx_163_5 kp_163_10 (tk_0 hT) kf_11_0 (by decide) (rq_0_0 hI) ?_
  refine s_callV2 (k := 7) (s1 := 2) (s2 := 0) (as := [rf 1]) (rest := []) kx_163_8 kp_163_315 (Or.inl rfl) rfl (tk_7 hT) ki_74 kcl_74 rfl rfl (by decide) (g_74 (d := d) hT hI ht h70 hC hs) (kF (fun v1 v1p => ?_))
  refine s_istore_n kx_163_11 km_163_1 rfl ?_
  refine s_iload_n kx_163_12 rfl ?_
  refine s_if_eq (t := 38) kx_163_13 (by decide) (fun hc2 => ?_) (fun hc2 => ?_)
  · replace v1p := v1p.resolve_left (by omega)
    refine s_aload_n kx_163_38 rfl ?_
    refine s_iconst (v := 5) kx_163_39 (by decide) ?_
    refine s_callV2 (k := 0) (s1 := 2) (s2 := 0) (as := [(0, 5)]) (rest := []) kx_163_40 kp_163_81 (Or.inl rfl) rfl (tk_0 hT) ki_165 kcl_165 rfl rfl (by decide) (n_165 (d := d + 1) (kind := 5) hT hI (by omega)) (kW (fun v3 M4 hI4 fr4 v3p => ?_))
    have hFm4 := hFm.call fr4 rfl
    have hc5 := (CR.fr hC fr4 ht rfl)
    refine s_pop kx_163_43 rfl ?_
    refine s_aload_n kx_163_44 rfl ?_
    refine r_getR (k := 0) (f := 0) (k2 := 1) kx_163_45 kp_163_10 (tk_0 hT) kf_11_0 (by decide) (rq_0_0 hI4) ?_
    refine s_iconst (v := 0) kx_163_48 (by decide) ?_
    refine r_put (k := 1) (f := 1) kx_163_49 kp_163_78 (tk_1 hT) kf_8_1 rfl (by decide) (by decide) hI4 (ru_1_1 (by omega) (by omega)) (fun M6 hI6 u6 => ?_)
    have hFm6 := hFm4.up u6 rfl
    have hc7 := (CR.up hc5 u6 ht (by omega))
    refine s_iload_n kx_163_52 rfl ?_
    exact s_iret kx_163_53 (Or.inr ⟨kq_163, by omega⟩) ⟨_, _, rfl, rfl, hI6, hFm6, ⟨(Or.inr ⟨⟨by omega, ((v3p.2.2).of (fun f => rfl) (fun f => (u6.2 61 _ (by omega))))⟩, hc7, (CH.up (CH.fr hH fr4 rfl) u6 (by omega))⟩), u6.1⟩⟩
  · replace v1p := v1p.resolve_right (by omega)
    have him := pIm_1 (D := D) (s := s) (n := M 1 1) (by omega)
    refine s_aload_n kx_163_16 rfl ?_
    refine r_getR (k := 0) (f := 2) (k2 := 7) kx_163_17 kp_163_26 (tk_0 hT) kf_11_2 (by decide) (rq_0_2 hI) ?_
    refine s_aload_n kx_163_20 rfl ?_
    refine r_getR (k := 0) (f := 0) (k2 := 1) kx_163_21 kp_163_10 (tk_0 hT) kf_11_0 (by decide) (rq_0_0 hI) ?_
    refine s_callV2 (k := 7) (s1 := 2) (s2 := 0) (as := [rf 1]) (rest := []) kx_163_24 kp_163_319 (Or.inl rfl) rfl (tk_7 hT) ki_77 kcl_77 rfl rfl (by decide) (g_77 (d := d) hT hI ht h70 hC hs him.2.2.1) (kV (fun M9 hI9 fr9 v8p => ?_))
    have hFm9 := hFm.call fr9 rfl
    have hc10 := v8p
    refine s_aload_n kx_163_27 rfl ?_
    refine r_getR (k := 0) (f := 3) (k2 := 44) kx_163_28 kp_163_33 (tk_0 hT) kf_11_3 (by decide) (rq_0_3 hI9) ?_
    refine s_iconst (v := 0) kx_163_31 (by decide) ?_
    refine r_put (k := 44) (f := 2) kx_163_32 kp_163_110 (tk_44 hT) kf_2_2 rfl (by decide) (by decide) hI9 ru_44_2 (fun M11 hI11 u11 => ?_)
    have hFm11 := hFm9.up u11 rfl
    have hc12 := (CR.up hc10 u11 ht (by omega))
    refine s_goto (t := 44) kx_163_35 (by decide) ?_
    refine s_aload_n kx_163_44 rfl ?_
    refine r_getR (k := 0) (f := 0) (k2 := 1) kx_163_45 kp_163_10 (tk_0 hT) kf_11_0 (by decide) (rq_0_0 hI11) ?_
    refine s_iconst (v := 0) kx_163_48 (by decide) ?_
    refine r_put (k := 1) (f := 1) kx_163_49 kp_163_78 (tk_1 hT) kf_8_1 rfl (by decide) (by decide) hI11 (ru_1_1 (by omega) (by omega)) (fun M13 hI13 u13 => ?_)
    have hFm13 := hFm11.up u13 rfl
    have hc14 := (CR.up hc12 u13 ht (by omega))
    refine s_iload_n kx_163_52 rfl ?_
    exact s_iret kx_163_53 (Or.inr ⟨kq_163, by omega⟩) ⟨_, _, rfl, rfl, hI13, hFm13, ⟨(Or.inl ⟨⟨by omega, (fun f => ((u13.2 61 _ (by omega)).trans ((u11.2 61 _ (by omega)).trans (fr9 61 _ rfl))))⟩, hc14, CH.zero (((u13.2 44 2 (by omega)).trans u11.1))⟩), u13.1⟩⟩
