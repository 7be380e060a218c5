def gC_156_m : List (Nat × Nat) := [(1, 1), (20, 99999), (23, 99999), (37, 99999), (40, 99999), (43, 99999), (51, 2), (52, 99999), (53, 99999), (61, 99999)]
theorem g_156 {xs : Nat → Int} {Ln d : Nat} {T : List cK} {M : cM} (hT : TT T) (hI : Rng M) {t : Nat} (ht : t = 8 ∨ t = 25) (h70 : M 7 0 = ((t : Nat) : Int)) {person : Int} {D S : cM} (hC : CR D S t M) (hG : Gm T M) {s : Nat → Int} (hs : M 2 = s) : cC k_P xs Ln (d + 7) 156 [rf 0, (0, person)] (T, M) (qW T M gC_156_m 0 (fun v M1 => ((v = -1 ∧ pEt D S s person (M 1 1) = 0 ∧ M1 51 2 = M 51 2 ∧ ∀ k, M1 53 k = M 53 k) ∨ (pEt D S s person (M 1 1) = 1 ∧ v = pVb D S s person (M 1 1 / 2).toNat 0 (S 1 person.toNat) ∧ M1 51 2 = (if v = -1 then 0 else M 1 1 / 2) ∧ (v ≠ -1 → pTr D S s person (M 1 1 / 2).toNat M1 (M 1 1 / 2)))) ∧ M1 1 1 = 0)) := by
  show cP k_P xs Ln (d + 7) 156 0 [(0, rf 0), (1, (0, person))] [] (T, M) _
  have hFm : Fr gC_156_m M M := Fr.refl
  have hD := hC.2.1
  have hDr := hD.rg
  have hSW := hC.2.2.2.2.1
  refine s_aload_n kx_156_0 rfl ?_
  refine r_getR (k := 0) (f := 5) (k2 := 51) kx_156_1 kp_156_47 (tk_0 hT) kf_11_5 (by decide) (rq_0_5 hI) ?_
  refine s_aload_n kx_156_4 rfl ?_
  refine r_getR (k := 0) (f := 2) (k2 := 7) kx_156_5 kp_156_26 (tk_0 hT) kf_11_2 (by decide) (rq_0_2 hI) ?_
  refine s_aload_n kx_156_8 rfl ?_
  refine r_getR (k := 0) (f := 0) (k2 := 1) kx_156_9 kp_156_10 (tk_0 hT) kf_11_0 (by decide) (rq_0_0 hI) ?_
  refine s_iload_n kx_156_12 rfl ?_
  refine s_callV2 (k := 51) (s1 := 4) (s2 := 0) (as := [(0, person), rf 1, rf 7]) (rest := []) kx_156_13 kp_156_286 (Or.inl rfl) rfl (tk_51 hT) ki_2 kcl_2 rfl rfl (by decide) (g_2 (d := d + 4) (person := person) hT hI ht h70 hC hs) (kF (fun v1 v1p => ?_))
  refine s_istore_n kx_156_16 km_156_2 rfl ?_
  refine s_iload_n kx_156_17 rfl ?_
  refine s_if_eq (t := 40) kx_156_18 (by decide) (fun hc2 => ?_) (fun hc2 => ?_)
  · replace v1p := v1p.resolve_left (by omega)
    refine s_aload_n kx_156_40 rfl ?_
    refine s_iconst (v := 5) kx_156_41 (by decide) ?_
    refine s_callV2 (k := 0) (s1 := 2) (s2 := 0) (as := [(0, 5)]) (rest := []) kx_156_42 kp_156_81 (Or.inl rfl) rfl (tk_0 hT) ki_165 kcl_165 rfl rfl (by decide) (m_165 (d := d + 6) (kind := 5) hT hI) (kW (fun v3 M4 hI4 fr4 v3p => ?_))
    have hFm4 := hFm.call fr4 rfl
    have hc5 := (CR.fr hC fr4 ht rfl)
    refine s_istore_n kx_156_45 km_156_3 rfl ?_
    refine s_aload_n kx_156_46 rfl ?_
    refine r_getR (k := 0) (f := 0) (k2 := 1) kx_156_47 kp_156_10 (tk_0 hT) kf_11_0 (by decide) (rq_0_0 hI4) ?_
    refine s_iconst (v := 0) kx_156_50 (by decide) ?_
    refine r_put (k := 1) (f := 1) kx_156_51 kp_156_78 (tk_1 hT) kf_8_1 rfl (by decide) (by decide) hI4 (ru_1_1 (by omega) (by omega)) (fun M6 hI6 u6 => ?_)
    have hFm6 := hFm4.up u6 rfl
    have hc7 := (CR.up hc5 u6 ht (by omega))
    refine s_iload_n kx_156_54 rfl ?_
    exact s_iret kx_156_55 (Or.inl kq_156) ⟨_, _, rfl, rfl, hI6, hFm6, ⟨Or.inl ⟨by omega, by omega, ((u6.2 51 2 (by omega)).trans (fr4 51 2 rfl)), fun k => ((u6.2 53 _ (by omega)).trans (fr4 53 _ rfl))⟩, u6.1⟩⟩
  · replace v1p := v1p.resolve_right (by omega)
    refine s_aload_n kx_156_21 rfl ?_
    refine r_getR (k := 0) (f := 5) (k2 := 51) kx_156_22 kp_156_47 (tk_0 hT) kf_11_5 (by decide) (rq_0_5 hI) ?_
    refine s_aload_n kx_156_25 rfl ?_
    refine r_getR (k := 0) (f := 2) (k2 := 7) kx_156_26 kp_156_26 (tk_0 hT) kf_11_2 (by decide) (rq_0_2 hI) ?_
    refine s_aload_n kx_156_29 rfl ?_
    refine r_getR (k := 0) (f := 0) (k2 := 1) kx_156_30 kp_156_10 (tk_0 hT) kf_11_0 (by decide) (rq_0_0 hI) ?_
    refine s_iload_n kx_156_33 rfl ?_
    refine s_callV2 (k := 51) (s1 := 4) (s2 := 0) (as := [(0, person), rf 1, rf 7]) (rest := []) kx_156_34 kp_156_290 (Or.inl rfl) rfl (tk_51 hT) ki_3 kcl_3 rfl rfl (by decide) (g_3 (d := d) (person := person) hT hI ht h70 hC hG hs (by omega) (by omega) (by omega)) (kW (fun v8 M9 hI9 fr9 v8p => ?_))
    have hFm9 := hFm.call fr9 rfl
    have hc10 := (CR.fr hC fr9 ht rfl)
    refine s_goto (t := 45) kx_156_37 (by decide) ?_
    refine s_istore_n kx_156_45 km_156_3 rfl ?_
    refine s_aload_n kx_156_46 rfl ?_
    refine r_getR (k := 0) (f := 0) (k2 := 1) kx_156_47 kp_156_10 (tk_0 hT) kf_11_0 (by decide) (rq_0_0 hI9) ?_
    refine s_iconst (v := 0) kx_156_50 (by decide) ?_
    refine r_put (k := 1) (f := 1) kx_156_51 kp_156_78 (tk_1 hT) kf_8_1 rfl (by decide) (by decide) hI9 (ru_1_1 (by omega) (by omega)) (fun M11 hI11 u11 => ?_)
    have hFm11 := hFm9.up u11 rfl
    have hc12 := (CR.up hc10 u11 ht (by omega))
    refine s_iload_n kx_156_54 rfl ?_
    exact s_iret kx_156_55 (Or.inl kq_156) ⟨_, _, rfl, rfl, hI11, hFm11, ⟨Or.inr ⟨by omega, v8p.1, ((u11.2 51 2 (by omega)).trans v8p.2.1), fun hv k hk => ((u11.2 53 _ (by omega)).trans (v8p.2.2 hv k hk))⟩, u11.1⟩⟩
