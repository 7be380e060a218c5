def hC_159_m : List (Nat × Nat) := [(1, 1), (54, 6), (54, 7), (55, 99999), (56, 99999), (57, 99999), (58, 99999), (59, 99999), (60, 99999), (61, 99999)]
theorem h_159 {xs : Nat → Int} {Ln d : Nat} {T : List cK} {M : cM} (hT : TT T) (hI : Rng M) {t : Nat} (ht : t = 8 ∨ t = 25) (h70 : M 7 0 = ((t : Nat) : Int)) {D S : cM} (hC : CR D S t M) {s : Nat → Int} (hs : M 2 = s) : cC k_P xs Ln (d + 5) 159 [rf 0] (T, M) (qW T M hC_159_m 0 (fun v M1 => v = pSg D S s (M 1 1) ∧ ((pSo D s (M 1 1) = 1 ∧ M1 54 6 = 1 ∧ WHS D S s (M 1 1 / 2) (fun p r => M1 60 (p * 8 + r).toNat)) ∨ (pSo D s (M 1 1) = 0 ∧ M1 54 6 = M 54 6 ∧ ∀ f, M1 60 f = M 60 f)) ∧ M1 1 1 = 0)) := by
  show cP k_P xs Ln (d + 5) 159 0 [(0, rf 0)] [] (T, M) _
  have hFm : Fr hC_159_m M M := Fr.refl
  have hD := hC.2.1
  have hDr := hD.rg
  have hSW := hC.2.2.2.2
  have hn0 := (rg_1_1 hI).1
  refine s_aload_n kx_159_0 rfl ?_
  refine r_getR (k := 0) (f := 6) (k2 := 54) kx_159_1 kp_159_54 (tk_0 hT) kf_11_6 (by decide) (rq_0_6 hI) ?_
  refine s_aload_n kx_159_4 rfl ?_
  refine r_getR (k := 0) (f := 2) (k2 := 7) kx_159_5 kp_159_26 (tk_0 hT) kf_11_2 (by decide) (rq_0_2 hI) ?_
  refine r_getR (k := 7) (f := 0) (k2 := t) kx_159_8 kp_159_120 (tk_7 hT) kf_5_0 (by decide) h70 ?_
  refine s_aload_n kx_159_11 rfl ?_
  refine r_getR (k := 0) (f := 0) (k2 := 1) kx_159_12 kp_159_10 (tk_0 hT) kf_11_0 (by decide) (rq_0_0 hI) ?_
  refine s_callV2 (k := 54) (s1 := 3) (s2 := 0) (as := [rf 1, rf t]) (rest := []) kx_159_15 kp_159_301 (Or.inl rfl) rfl (tk_54 hT) ki_81 kcl_81 rfl rfl (by decide) (h_81 (d := d + 2) hT hI ht h70 hC hs) (kW (fun v1 M2 hI2 fr2 v1p => ?_))
  have hFm2 := hFm.call fr2 rfl
  have hc3 := (CR.fr hC fr2 ht rfl)
  refine s_istore_n kx_159_18 km_159_1 rfl ?_
  refine s_iload_n kx_159_19 rfl ?_
  refine s_if_eq (t := 37) kx_159_20 (by decide) (fun hc4 => ?_) (fun hc4 => ?_)
  · replace v1p := v1p.resolve_left (by omega)
    refine s_aload_n kx_159_37 rfl ?_
    refine s_iconst (v := 5) kx_159_38 (by decide) ?_
    refine s_callV2 (k := 0) (s1 := 2) (s2 := 0) (as := [(0, 5)]) (rest := []) kx_159_39 kp_159_81 (Or.inl rfl) rfl (tk_0 hT) ki_165 kcl_165 rfl rfl (by decide) (n_165 (d := d + 4) (kind := 5) hT hI2 (by omega)) (kW (fun v5 M6 hI6 fr6 v5p => ?_))
    have hFm6 := hFm2.call fr6 rfl
    have hc7 := (CR.fr hc3 fr6 ht rfl)
    refine s_istore_n kx_159_42 km_159_2 rfl ?_
    refine s_aload_n kx_159_43 rfl ?_
    refine r_getR (k := 0) (f := 0) (k2 := 1) kx_159_44 kp_159_10 (tk_0 hT) kf_11_0 (by decide) (rq_0_0 hI6) ?_
    refine s_iconst (v := 0) kx_159_47 (by decide) ?_
    refine r_put (k := 1) (f := 1) kx_159_48 kp_159_78 (tk_1 hT) kf_8_1 rfl (by decide) (by decide) hI6 (ru_1_1 (by omega) (by omega)) (fun M8 hI8 u8 => ?_)
    have hFm8 := hFm6.up u8 rfl
    have hc9 := (CR.up hc7 u8 ht (by omega))
    refine s_iload_n kx_159_51 rfl ?_
    exact s_iret kx_159_52 (Or.inl kq_159) ⟨_, _, rfl, rfl, hI8, hFm8, ⟨by unfold pSg; rw [if_neg (by omega)]; omega, Or.inr ⟨v1p.2, ((u8.2 54 6 (by omega)).trans ((fr6 54 6 rfl).trans (fr2 54 6 rfl))), fun f => ((u8.2 60 _ (by omega)).trans ((fr6 60 _ rfl).trans (fr2 60 _ rfl)))⟩, u8.1⟩⟩
  · replace v1p := v1p.resolve_right (by omega)
    refine s_aload_n kx_159_23 rfl ?_
    refine r_getR (k := 0) (f := 6) (k2 := 54) kx_159_24 kp_159_54 (tk_0 hT) kf_11_6 (by decide) (rq_0_6 hI2) ?_
    refine s_aload_n kx_159_27 rfl ?_
    refine r_getR (k := 0) (f := 2) (k2 := 7) kx_159_28 kp_159_26 (tk_0 hT) kf_11_2 (by decide) (rq_0_2 hI2) ?_
    refine s_callV2 (k := 54) (s1 := 2) (s2 := 0) (as := [rf 7]) (rest := []) kx_159_31 kp_159_304 (Or.inl rfl) rfl (tk_54 hT) ki_83 kcl_83 rfl rfl (by decide) (g_83 (d := d) hT hI2 ht ((fr2 7 0 rfl).trans h70) hc3 (w := pWt s (M 1 1 / 2).toNat) v1p.2.2.2 (fun r => pWt_ge v1p.2.2.1 _ (by omega))) (kW (fun v10 M11 hI11 fr11 v10p => ?_))
    have hFm11 := hFm2.call fr11 rfl
    have hc12 := (CR.fr hc3 fr11 ht rfl)
    refine s_goto (t := 42) kx_159_34 (by decide) ?_
    refine s_istore_n kx_159_42 km_159_2 rfl ?_
    refine s_aload_n kx_159_43 rfl ?_
    refine r_getR (k := 0) (f := 0) (k2 := 1) kx_159_44 kp_159_10 (tk_0 hT) kf_11_0 (by decide) (rq_0_0 hI11) ?_
    refine s_iconst (v := 0) kx_159_47 (by decide) ?_
    refine r_put (k := 1) (f := 1) kx_159_48 kp_159_78 (tk_1 hT) kf_8_1 rfl (by decide) (by decide) hI11 (ru_1_1 (by omega) (by omega)) (fun M13 hI13 u13 => ?_)
    have hFm13 := hFm11.up u13 rfl
    have hc14 := (CR.up hc12 u13 ht (by omega))
    refine s_iload_n kx_159_51 rfl ?_
    exact s_iret kx_159_52 (Or.inl kq_159) ⟨_, _, rfl, rfl, hI13, hFm13, ⟨by unfold pSg; rw [if_pos v1p.2.1, ← WHT.tl v1p.2.2.1 (by omega)]; exact v10p.1, Or.inl ⟨v1p.2.1, (u13.2 54 6 (by omega)).trans v10p.2.2, WHR.tl (WHR.up v10p.2.1 u13 (by decide)) v1p.2.2.1 (by omega)⟩, u13.1⟩⟩
theorem h_160 {xs : Nat → Int} {Ln d : Nat} {T : List cK} {M : cM} (hT : TT T) (hI : Rng M) {t : Nat} (ht : t = 8 ∨ t = 25) (h70 : M 7 0 = ((t : Nat) : Int)) {person room : Int} {D S : cM} (hC : CR D S t M) : cC k_P xs Ln (d + 1) 160 [rf 0, (0, person), (0, room)] (T, M) (qF T M 0 (fun v => v = pWq D (M 54 6) (fun p r => M 60 (p * 8 + r).toNat) person room)) := by
  show cP k_P xs Ln (d + 1) 160 0 [(0, rf 0), (1, (0, person)), (2, (0, room))] [] (T, M) _
  have hD := hC.2.1
  have hDr := hD.rg
  have hSW := hC.2.2.2.2
  refine s_aload_n kx_160_0 rfl ?_
  refine r_getR (k := 0) (f := 6) (k2 := 54) kx_160_1 kp_160_54 (tk_0 hT) kf_11_6 (by decide) (rq_0_6 hI) ?_
  refine r_getI (k := 54) (f := 6) kx_160_4 kp_160_116 (tk_54 hT) kf_6_6 (fun _ => rfl) (rg_54_6 hI) (fun v1 v1e v1a v1b => ?_)
  refine s_if_eq (t := 38) kx_160_7 (by decide) (fun hc2 => ?_) (fun hc2 => ?_)
  · refine s_iconst (v := (-1)) kx_160_38 (by decide) ?_
    exact s_iret kx_160_39 (Or.inl kq_160) ⟨_, rfl, rfl, (by unfold pWq; rw [if_neg (by omega)])⟩
  · refine s_aload_n kx_160_10 rfl ?_
    refine r_getR (k := 0) (f := 2) (k2 := 7) kx_160_11 kp_160_26 (tk_0 hT) kf_11_2 (by decide) (rq_0_2 hI) ?_
    refine r_getR (k := 7) (f := 0) (k2 := t) kx_160_14 kp_160_120 (tk_7 hT) kf_5_0 (by decide) h70 ?_
    refine s_iload_n kx_160_17 rfl ?_
    refine s_callV2 (k := t) (s1 := 2) (s2 := 0) (as := [(0, person)]) (rest := []) kx_160_18 kp_160_164 (Or.inl rfl) rfl (tkt_0 hT ht) ki_107 kcl_107 rfl rfl (by decide) (g_107 (d := d) (person := person) hT hI ht h70 hC) (kF (fun v3 v3p => ?_))
    refine s_if_eq (t := 38) kx_160_21 (by decide) (fun hc4 => ?_) (fun hc4 => ?_)
    · replace v3p := v3p.resolve_left (by omega)
      refine s_iconst (v := (-1)) kx_160_38 (by decide) ?_
      exact s_iret kx_160_39 (Or.inl kq_160) ⟨_, rfl, rfl, (by unfold pWq; rw [if_neg (by omega)])⟩
    · replace v3p := v3p.resolve_right (by omega)
      refine s_aload_n kx_160_24 rfl ?_
      refine r_getR (k := 0) (f := 2) (k2 := 7) kx_160_25 kp_160_26 (tk_0 hT) kf_11_2 (by decide) (rq_0_2 hI) ?_
      refine r_getR (k := 7) (f := 0) (k2 := t) kx_160_28 kp_160_120 (tk_7 hT) kf_5_0 (by decide) h70 ?_
      refine s_iload_n kx_160_31 rfl ?_
      refine s_callV2 (k := t) (s1 := 2) (s2 := 0) (as := [(0, room)]) (rest := []) kx_160_32 kp_160_153 (Or.inl rfl) rfl (tkt_0 hT ht) ki_106 kcl_106 rfl rfl (by decide) (g_106 (d := d) (room := room) hT hI ht h70 hC) (kF (fun v5 v5p => ?_))
      refine s_if_ne (t := 40) kx_160_35 (by decide) (fun hc6 => ?_) (fun hc6 => ?_)
      · replace v5p := v5p.resolve_right (by omega)
        refine s_aload_n kx_160_40 rfl ?_
        refine r_getR (k := 0) (f := 6) (k2 := 54) kx_160_41 kp_160_54 (tk_0 hT) kf_11_6 (by decide) (rq_0_6 hI) ?_
        refine r_getR (k := 54) (f := 5) (k2 := 60) kx_160_44 kp_160_308 (tk_54 hT) kf_6_5 (by decide) (rq_54_5 hI) ?_
        refine s_iload_n kx_160_47 rfl ?_
        refine s_bipush (v := 8) kx_160_48 (by decide) ?_
        refine r_mul kx_160_50 ⟨by omega, by omega⟩ ?_
        refine s_iload_n kx_160_51 rfl ?_
        refine r_add kx_160_52 ⟨by omega, by omega⟩ ?_
        refine r_aldU (k := 60) kx_160_53 (tk_60 hT) ⟨by omega, by omega⟩ (fun v7 v7e => ?_)
        exact s_iret kx_160_54 (Or.inl kq_160) ⟨_, rfl, rfl, (by unfold pWq; rw [if_pos (by omega)]; exact v7e.symm)⟩
      · replace v5p := v5p.resolve_left (by omega)
        refine s_iconst (v := (-1)) kx_160_38 (by decide) ?_
        exact s_iret kx_160_39 (Or.inl kq_160) ⟨_, rfl, rfl, (by unfold pWq; rw [if_neg (by omega)])⟩
