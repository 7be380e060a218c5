theorem h_39 {xs : Nat → Int} {Ln d : Nat} {T : List cK} {M : cM} (hT : TT T) (hI : Rng M) {k : Int} : cC k_P xs Ln (d + 0) 39 [rf 46, (0, k)] (T, M) (qF T M 0 (fun v => v = if 0 ≤ k ∧ k < M 46 5 then M 50 k.toNat else -1)) := by
  show cP k_P xs Ln (d + 0) 39 0 [(0, rf 46), (1, (0, k))] [] (T, M) _
  have h465 := rg_46_5 hI
  refine s_iload_n kx_39_0 rfl ?_
  refine s_if_lt (t := 21) kx_39_1 (by decide) (fun hc1 => ?_) (fun hc1 => ?_)
  · refine s_iconst (v := (-1)) kx_39_21 (by decide) ?_
    exact s_iret kx_39_22 (Or.inl kq_39) ⟨_, rfl, rfl, ((if_neg (by omega)).symm)⟩
  · refine s_iload_n kx_39_4 rfl ?_
    refine s_aload_n kx_39_5 rfl ?_
    refine r_getI (k := 46) (f := 5) kx_39_6 kp_39_28 (tk_46 hT) kf_4_5 (fun _ => rfl) (rg_46_5 hI) (fun v2 v2e v2a v2b => ?_)
    refine s_icmp_ge (t := 21) kx_39_9 (by decide) (fun hc3 => ?_) (fun hc3 => ?_)
    · refine s_iconst (v := (-1)) kx_39_21 (by decide) ?_
      exact s_iret kx_39_22 (Or.inl kq_39) ⟨_, rfl, rfl, ((if_neg (by omega)).symm)⟩
    · refine s_aload_n kx_39_12 rfl ?_
      refine r_getR (k := 46) (f := 3) (k2 := 50) kx_39_13 kp_39_21 (tk_46 hT) kf_4_3 (by decide) (rq_46_3 hI) ?_
      refine s_iload_n kx_39_16 rfl ?_
      refine r_ald (k := 50) kx_39_17 (tk_50 hT) ⟨by omega, by omega⟩ (rg_50 hI) (fun v4 v4e v4a v4b => ?_)
      refine s_goto (t := 22) kx_39_18 (by decide) ?_
      exact s_iret kx_39_22 (Or.inl kq_39) ⟨_, rfl, rfl, ((v4e).symm.trans (if_pos (by omega)).symm)⟩
def gC_33_m : List (Nat × Nat) := [(20, 99999), (23, 99999), (37, 99999), (40, 99999), (43, 99999), (47, 99999), (48, 99999)]
theorem g_33 {xs : Nat → Int} {Ln d : Nat} {T : List cK} {M : cM} (hT : TT T) (hI : Rng M) {t : Nat} (ht : t = 8 ∨ t = 25) (h70 : M 7 0 = ((t : Nat) : Int)) {person chair : Int} {D S : cM} (hC : CR D S t M) (hG : Gm T M) (p0 : 0 ≤ person ∧ person ≤ 7) (p1 : 0 ≤ chair ∧ chair ≤ 7) (p2 : person < D 0 1) (p3 : chair < D 0 1) : cC k_P xs Ln (d + 6) 33 [rf 46, rf 7, (0, person), (0, chair)] (T, M) (qV T M gC_33_m (fun M1 => CR D S t M1 ∧ pTb M1 (D 0 0) (fun a b => pLx D S chair person a b (D 0 1).toNat))) := by
  show cP k_P xs Ln (d + 6) 33 0 [(0, rf 46), (1, rf 7), (2, (0, person)), (3, (0, chair))] [] (T, M) _
  have hFm : Fr gC_33_m M M := Fr.refl
  have hD := hC.2.1
  have hDr := hD.rg
  have hSW := hC.2.2.2.2.1
  refine s_aload_n kx_33_0 rfl ?_
  refine r_getR (k := 46) (f := 0) (k2 := 47) kx_33_1 kp_33_9 (tk_46 hT) kf_4_0 (by decide) (rq_46_0 hI) ?_
  refine s_iconst (v := 0) kx_33_4 (by decide) ?_
  refine s_callS2 (s1 := 2) (s2 := 0) (as := [(0, 0), rf 47]) (rest := []) kx_33_5 kp_33_34 rfl kcl_301 rfl rfl (by decide) (f_fill (d := d + 5) (val := 0) hT hI (k := 47) (n := 64) (tk_47 hT) (by decide) (fun _ => ru_47)) (kV (fun M2 hI2 fr2 v1p => ?_))
  have hFm2 := hFm.call fr2 rfl
  have hx0 : pTb M2 (D 0 0) (fun _ _ => (0, 0)) := fun a b ha hb => ⟨v1p (8 * a + b) (by omega), fun z => absurd rfl z⟩
  have hc3 := (CR.fr hC fr2 ht rfl)
  refine s_aload_n kx_33_8 rfl ?_
  refine s_aload_n kx_33_9 rfl ?_
  refine s_iload_n kx_33_10 rfl ?_
  refine s_iload_n kx_33_11 rfl ?_
  refine s_callV2 (k := 46) (s1 := 4) (s2 := 0) (as := [(0, chair), (0, person), rf 7]) (rest := []) kx_33_12 kp_33_40 (Or.inl rfl) rfl (tk_46 hT) ki_35 kcl_35 rfl rfl (by decide) (g_35 (d := d) (person := person) (chair := chair) hT hI2 ht ((fr2 7 0 rfl).trans h70) hc3 (Gm.fr hG fr2 rfl) hx0 (by omega) (by omega) (by omega) (by omega)) (kV (fun M5 hI5 fr5 v4p => ?_))
  have hFm5 := hFm2.call fr5 rfl
  have hc6 := v4p.1
  exact s_vret kx_33_15 kq_33 ⟨_, rfl, rfl, hI5, hFm5, ⟨hc6, pTb.one v4p.2 ⟨by omega, by omega⟩⟩⟩
def gC_34_l10 : List (Nat × Nat) := [(20, 99999), (23, 99999), (37, 99999), (40, 99999), (43, 99999), (47, 99999), (48, 99999)]
def gC_34_m : List (Nat × Nat) := [(20, 99999), (23, 99999), (37, 99999), (40, 99999), (43, 99999), (47, 99999), (48, 99999)]
theorem g_34 {xs : Nat → Int} {Ln d : Nat} {T : List cK} {M : cM} (hT : TT T) (hI : Rng M) {t : Nat} (ht : t = 8 ∨ t = 25) (h70 : M 7 0 = ((t : Nat) : Int)) {chair : Int} {D S : cM} (hC : CR D S t M) (hG : Gm T M) (p0 : 0 ≤ chair ∧ chair ≤ 7) (p1 : chair < D 0 1) : cC k_P xs Ln (d + 6) 34 [rf 46, rf 7, (0, chair)] (T, M) (qV T M gC_34_m (fun M1 => CR D S t M1 ∧ pTb M1 (D 0 0) (fun a b => pLx D S chair (-1) a b (D 0 1).toNat))) := by
  show cP k_P xs Ln (d + 6) 34 0 [(0, rf 46), (1, rf 7), (2, (0, chair))] [] (T, M) _
  have hFm : Fr gC_34_m M M := Fr.refl
  have hD := hC.2.1
  have hDr := hD.rg
  have hSW := hC.2.2.2.2.1
  refine s_aload_n kx_34_0 rfl ?_
  refine r_getR (k := 46) (f := 0) (k2 := 47) kx_34_1 kp_34_9 (tk_46 hT) kf_4_0 (by decide) (rq_46_0 hI) ?_
  refine s_iconst (v := 0) kx_34_4 (by decide) ?_
  refine s_callS2 (s1 := 2) (s2 := 0) (as := [(0, 0), rf 47]) (rest := []) kx_34_5 kp_34_34 rfl kcl_301 rfl rfl (by decide) (f_fill (d := d + 5) (val := 0) hT hI (k := 47) (n := 64) (tk_47 hT) (by decide) (fun _ => ru_47)) (kV (fun M2 hI2 fr2 v1p => ?_))
  have hFm2 := hFm.call fr2 rfl
  have hx0 : pTb M2 (D 0 0) (fun _ _ => (0, 0)) := fun a b ha hb => ⟨v1p (8 * a + b) (by omega), fun z => absurd rfl z⟩
  have hc3 := (CR.fr hC fr2 ht rfl)
  refine s_iconst (v := 0) kx_34_8 (by decide) ?_
  refine s_istore_n kx_34_9 km_34_3 rfl ?_
  have key6 : ∀ n7 : Nat, ∀ (x3_4 : Int), ∀ M5 : cM, Rng M5 → Fr gC_34_m M M5 → Fr gC_34_l10 M2 M5 → (0 ≤ x3_4) → (x3_4 ≤ 8) → (x3_4 ≤ D 0 1) → (CR D S t M5) → (pTb M5 (D 0 0) (fun a b => pLx D S chair (-1) a b (x3_4).toNat)) → (2147483647 - x3_4).toNat < n7 → cP k_P xs Ln (d + 6) 34 10 [(0, rf 46), (1, rf 7), (2, (0, chair)), (3, (0, x3_4))] [] (T, M5) (qV T M gC_34_m (fun M1 => CR D S t M1 ∧ pTb M1 (D 0 0) (fun a b => pLx D S chair (-1) a b (D 0 1).toNat))) := by
    intro n7
    induction n7 with
    | zero => intro x3_4 M5 hI5 hFm5 fl5 i8 i9 i10 i11 i12 hm13; exact absurd hm13 (Nat.not_lt_zero _)
    | succ n7 ih14 =>
      intro x3_4 M5 hI5 hFm5 fl5 i8 i9 i10 i11 i12 hm13
      refine s_iload_n kx_34_10 rfl ?_
      refine s_aload_n kx_34_11 rfl ?_
      refine r_getR (k := 7) (f := 0) (k2 := t) kx_34_12 kp_34_44 (tk_7 hT) kf_5_0 (by decide) ((fl5 7 0 rfl).trans ((fr2 7 0 rfl).trans h70)) ?_
      refine r_getI (k := t) (f := 1) kx_34_15 kp_34_50 (tkt_0 hT ht) kf_9_1 (fun _ => rfl) (rgt_0_1 hI5 ht) (fun v15 v15e v15a v15b => ?_)
      have v15d : D 0 1 = v15 := ((i11).1 0 1 (by decide)).symm.trans v15e
      have v15z : M t 1 = v15 := (((fl5 t 1 (by rcases ht with rfl | rfl <;> rfl)).trans (fr2 t 1 (by rcases ht with rfl | rfl <;> rfl)))).symm.trans v15e
      refine s_icmp_ge (t := 34) kx_34_18 (by decide) (fun hc16 => ?_) (fun hc16 => ?_)
      · exact s_vret kx_34_34 kq_34 ⟨_, rfl, rfl, hI5, hFm5, ⟨i11, by rw [show D 0 1 = x3_4 by omega]; exact i12⟩⟩
      · refine s_aload_n kx_34_21 rfl ?_
        refine s_aload_n kx_34_22 rfl ?_
        refine s_iload_n kx_34_23 rfl ?_
        refine s_iload_n kx_34_24 rfl ?_
        refine s_callV2 (k := 46) (s1 := 4) (s2 := 0) (as := [(0, chair), (0, x3_4), rf 7]) (rest := []) kx_34_25 kp_34_40 (Or.inl rfl) rfl (tk_46 hT) ki_35 kcl_35 rfl rfl (by decide) (g_35 (d := d) (person := x3_4) (chair := chair) hT hI5 ht ((fl5 7 0 rfl).trans ((fr2 7 0 rfl).trans h70)) i11 (Gm.fr (Gm.fr hG fr2 rfl) fl5 rfl) i12 (by omega) (by omega) (by omega) (by omega)) (kV (fun M18 hI18 fr18 v17p => ?_))
        have hFm18 := hFm5.call fr18 rfl
        have hFl1018 := fl5.call fr18 rfl
        have hc19 := v17p.1
        refine r_iinc kx_34_28 rfl km_34_3 (by decide) ⟨by omega, by omega⟩ rfl ?_
        refine s_goto (t := 10) kx_34_31 (by decide) ?_
        have hx20 : pTb M18 (D 0 0) (fun a b => pLx D S chair (-1) a b (x3_4 + 1).toNat) := pTb.bs v17p.2 (by omega)
        exact cP.wk (lS1 rfl (lS1 rfl (lS1 rfl (lS1 rfl lS0)))) (ih14 (x3_4 + 1) M18 hI18 hFm18 hFl1018 (by omega) (by omega) (by omega) hc19 hx20 (by omega))
  exact cP.wk (lS1 rfl (lS1 rfl (lS1 rfl (lS1 rfl lS0)))) (key6 _ 0 M2 hI2 hFm2 Fr.refl (by omega) (by omega) (by omega) hc3 hx0 (Nat.lt_succ_self _))
theorem g_167 {xs : Nat → Int} {Ln d : Nat} {T : List cK} {M : cM} (hT : TT T) (hI : Rng M) {t : Nat} (ht : t = 8 ∨ t = 25) (h70 : M 7 0 = ((t : Nat) : Int)) {chair room : Int} {D S : cM} (hC : CR D S t M) : cC k_P xs Ln (d + 1) 167 [rf 0, (0, chair), (0, room)] (T, M) (qF T M 0 (fun v => (v = 1 ∧ (0 ≤ chair ∧ chair < D 0 1) ∧ (0 ≤ room ∧ room < D 0 0) ∧ S 2 chair.toNat = 0) ∨ (v = 0 ∧ ¬ ((0 ≤ chair ∧ chair < D 0 1) ∧ (0 ≤ room ∧ room < D 0 0) ∧ S 2 chair.toNat = 0)))) := by
  show cP k_P xs Ln (d + 1) 167 0 [(0, rf 0), (1, (0, chair)), (2, (0, room))] [] (T, M) _
  have hD := hC.2.1
  have hDr := hD.rg
  have hSW := hC.2.2.2.2.1
  refine s_aload_n kx_167_0 rfl ?_
  refine r_getR (k := 0) (f := 2) (k2 := 7) kx_167_1 kp_167_26 (tk_0 hT) kf_11_2 (by decide) (rq_0_2 hI) ?_
  refine r_getR (k := 7) (f := 0) (k2 := t) kx_167_4 kp_167_120 (tk_7 hT) kf_5_0 (by decide) h70 ?_
  refine s_iload_n kx_167_7 rfl ?_
  refine s_callV2 (k := t) (s1 := 2) (s2 := 0) (as := [(0, chair)]) (rest := []) kx_167_8 kp_167_164 (Or.inl rfl) rfl (tkt_0 hT ht) ki_107 kcl_107 rfl rfl (by decide) (g_107 (d := d) (person := chair) hT hI ht h70 hC) (kF (fun v1 v1p => ?_))
  refine s_if_eq (t := 43) kx_167_11 (by decide) (fun hc2 => ?_) (fun hc2 => ?_)
  · replace v1p := v1p.resolve_left (by omega)
    refine s_iconst (v := 0) kx_167_43 (by decide) ?_
    exact s_iret kx_167_44 (Or.inr ⟨kq_167, by omega⟩) ⟨_, rfl, rfl, (Or.inr ⟨rfl, by omega⟩)⟩
  · replace v1p := v1p.resolve_right (by omega)
    refine s_aload_n kx_167_14 rfl ?_
    refine r_getR (k := 0) (f := 2) (k2 := 7) kx_167_15 kp_167_26 (tk_0 hT) kf_11_2 (by decide) (rq_0_2 hI) ?_
    refine r_getR (k := 7) (f := 0) (k2 := t) kx_167_18 kp_167_120 (tk_7 hT) kf_5_0 (by decide) h70 ?_
    refine s_iload_n kx_167_21 rfl ?_
    refine s_callV2 (k := t) (s1 := 2) (s2 := 0) (as := [(0, room)]) (rest := []) kx_167_22 kp_167_153 (Or.inl rfl) rfl (tkt_0 hT ht) ki_106 kcl_106 rfl rfl (by decide) (g_106 (d := d) (room := room) hT hI ht h70 hC) (kF (fun v3 v3p => ?_))
    refine s_if_eq (t := 43) kx_167_25 (by decide) (fun hc4 => ?_) (fun hc4 => ?_)
    · replace v3p := v3p.resolve_left (by omega)
      refine s_iconst (v := 0) kx_167_43 (by decide) ?_
      exact s_iret kx_167_44 (Or.inr ⟨kq_167, by omega⟩) ⟨_, rfl, rfl, (Or.inr ⟨rfl, by omega⟩)⟩
    · replace v3p := v3p.resolve_right (by omega)
      refine s_aload_n kx_167_28 rfl ?_
      refine r_getR (k := 0) (f := 2) (k2 := 7) kx_167_29 kp_167_26 (tk_0 hT) kf_11_2 (by decide) (rq_0_2 hI) ?_
      refine s_iload_n kx_167_32 rfl ?_
      refine s_callV2 (k := 7) (s1 := 2) (s2 := 0) (as := [(0, chair)]) (rest := []) kx_167_33 kp_167_197 (Or.inl rfl) rfl (tk_7 hT) ki_45 kcl_45 rfl rfl (by decide) (g_45 (d := d) (chair := chair) hT hI ht h70 hC (by omega) (by omega)) (kF (fun v5 v5p => ?_))
      refine s_if_ne (t := 43) kx_167_36 (by decide) (fun hc6 => ?_) (fun hc6 => ?_)
      · replace v5p := v5p.resolve_right (by omega)
        refine s_iconst (v := 0) kx_167_43 (by decide) ?_
        exact s_iret kx_167_44 (Or.inr ⟨kq_167, by omega⟩) ⟨_, rfl, rfl, (Or.inr ⟨rfl, by omega⟩)⟩
      · replace v5p := v5p.resolve_left (by omega)
        refine s_iconst (v := 1) kx_167_39 (by decide) ?_
        refine s_goto (t := 44) kx_167_40 (by decide) ?_
        exact s_iret kx_167_44 (Or.inr ⟨kq_167, by omega⟩) ⟨_, rfl, rfl, (Or.inl ⟨rfl, by omega, by omega, by omega⟩)⟩
theorem h_40 {xs : Nat → Int} {Ln d : Nat} {T : List cK} {M : cM} (hT : TT T) (hI : Rng M) {k : Int} : cC k_P xs Ln (d + 0) 40 [rf 46, (0, k)] (T, M) (qF T M 0 (fun v => v = if 0 ≤ k ∧ k < M 46 5 then M 48 ((if k = 0 then M 46 4 else M 50 (k - 1).toNat) * 8 + M 50 k.toNat).toNat else -1)) := by
  show cP k_P xs Ln (d + 0) 40 0 [(0, rf 46), (1, (0, k))] [] (T, M) _
  have h465 := rg_46_5 hI
  refine s_iload_n kx_40_0 rfl ?_
  refine s_if_lt (t := 12) kx_40_1 (by decide) (fun hc1 => ?_) (fun hc1 => ?_)
  · refine s_iconst (v := (-1)) kx_40_12 (by decide) ?_
    exact s_iret kx_40_13 (Or.inl kq_40) ⟨_, rfl, rfl, ((if_neg (by omega)).symm)⟩
  · refine s_iload_n kx_40_4 rfl ?_
    refine s_aload_n kx_40_5 rfl ?_
    refine r_getI (k := 46) (f := 5) kx_40_6 kp_40_28 (tk_46 hT) kf_4_5 (fun _ => rfl) (rg_46_5 hI) (fun v2 v2e v2a v2b => ?_)
    refine s_icmp_lt (t := 14) kx_40_9 (by decide) (fun hc3 => ?_) (fun hc3 => ?_)
    · refine s_iload_n kx_40_14 rfl ?_
      refine s_if_ne (t := 25) kx_40_15 (by decide) (fun hc4 => ?_) (fun hc4 => ?_)
      · refine s_aload_n kx_40_25 rfl ?_
        refine r_getR (k := 46) (f := 3) (k2 := 50) kx_40_26 kp_40_21 (tk_46 hT) kf_4_3 (by decide) (rq_46_3 hI) ?_
        refine s_iload_n kx_40_29 rfl ?_
        refine s_iconst (v := 1) kx_40_30 (by decide) ?_
        refine r_sub kx_40_31 ⟨by omega, by omega⟩ ?_
        refine r_ald (k := 50) kx_40_32 (tk_50 hT) ⟨by omega, by omega⟩ (rg_50 hI) (fun v5 v5e v5a v5b => ?_)
        refine s_istore_n kx_40_33 km_40_2 rfl ?_
        refine s_aload_n kx_40_34 rfl ?_
        refine r_getR (k := 46) (f := 1) (k2 := 48) kx_40_35 kp_40_15 (tk_46 hT) kf_4_1 (by decide) (rq_46_1 hI) ?_
        refine s_iload_n kx_40_38 rfl ?_
        refine s_bipush (v := 8) kx_40_39 (by decide) ?_
        refine r_mul kx_40_41 ⟨by omega, by omega⟩ ?_
        refine s_aload_n kx_40_42 rfl ?_
        refine r_getR (k := 46) (f := 3) (k2 := 50) kx_40_43 kp_40_21 (tk_46 hT) kf_4_3 (by decide) (rq_46_3 hI) ?_
        refine s_iload_n kx_40_46 rfl ?_
        refine r_ald (k := 50) kx_40_47 (tk_50 hT) ⟨by omega, by omega⟩ (rg_50 hI) (fun v6 v6e v6a v6b => ?_)
        refine r_add kx_40_48 ⟨by omega, by omega⟩ ?_
        refine r_aldU (k := 48) kx_40_49 (tk_48 hT) ⟨by omega, by omega⟩ (fun v7 v7e => ?_)
        exact s_iret kx_40_50 (Or.inl kq_40) ⟨_, rfl, rfl, (by rw [if_pos (show 0 ≤ k ∧ k < M 46 5 by omega), if_neg (show ¬ k = 0 by omega), v5e, v6e]; exact v7e.symm)⟩
      · refine s_aload_n kx_40_18 rfl ?_
        refine r_getI (k := 46) (f := 4) kx_40_19 kp_40_24 (tk_46 hT) kf_4_4 (fun _ => rfl) (rg_46_4 hI) (fun v8 v8e v8a v8b => ?_)
        refine s_goto (t := 33) kx_40_22 (by decide) ?_
        refine s_istore_n kx_40_33 km_40_2 rfl ?_
        refine s_aload_n kx_40_34 rfl ?_
        refine r_getR (k := 46) (f := 1) (k2 := 48) kx_40_35 kp_40_15 (tk_46 hT) kf_4_1 (by decide) (rq_46_1 hI) ?_
        refine s_iload_n kx_40_38 rfl ?_
        refine s_bipush (v := 8) kx_40_39 (by decide) ?_
        refine r_mul kx_40_41 ⟨by omega, by omega⟩ ?_
        refine s_aload_n kx_40_42 rfl ?_
        refine r_getR (k := 46) (f := 3) (k2 := 50) kx_40_43 kp_40_21 (tk_46 hT) kf_4_3 (by decide) (rq_46_3 hI) ?_
        refine s_iload_n kx_40_46 rfl ?_
        refine r_ald (k := 50) kx_40_47 (tk_50 hT) ⟨by omega, by omega⟩ (rg_50 hI) (fun v9 v9e v9a v9b => ?_)
        refine r_add kx_40_48 ⟨by omega, by omega⟩ ?_
        refine r_aldU (k := 48) kx_40_49 (tk_48 hT) ⟨by omega, by omega⟩ (fun v10 v10e => ?_)
        exact s_iret kx_40_50 (Or.inl kq_40) ⟨_, rfl, rfl, (by rw [if_pos (show 0 ≤ k ∧ k < M 46 5 by omega), if_pos (show k = 0 by omega), v8e, v9e]; exact v10e.symm)⟩
    · refine s_iconst (v := (-1)) kx_40_12 (by decide) ?_
      exact s_iret kx_40_13 (Or.inl kq_40) ⟨_, rfl, rfl, ((if_neg (by omega)).symm)⟩
def gC_154_m : List (Nat × Nat) := [(20, 99999), (23, 99999), (37, 99999), (40, 99999), (43, 99999), (46, 4), (46, 5), (46, 6), (47, 99999), (48, 99999), (49, 99999), (50, 99999)]
theorem g_154 {xs : Nat → Int} {Ln d : Nat} {T : List cK} {M : cM} (hT : TT T) (hI : Rng M) {t : Nat} (ht : t = 8 ∨ t = 25) (h70 : M 7 0 = ((t : Nat) : Int)) {person chair room k : Int} {D S : cM} (hC : CR D S t M) (hG : Gm T M) : cC k_P xs Ln (d + 7) 154 [rf 0, (0, person), (0, chair), (0, room), (0, k)] (T, M) (qW T M gC_154_m 0 (fun v M1 => v = if 0 ≤ person ∧ person < D 0 1 then pRt 1000000000 D S chair person room k 0 else -1)) := by
  show cP k_P xs Ln (d + 7) 154 0 [(0, rf 0), (1, (0, person)), (2, (0, chair)), (3, (0, room)), (4, (0, k))] [] (T, M) _
  have hFm : Fr gC_154_m M M := Fr.refl
  have hD := hC.2.1
  have hDr := hD.rg
  have hSW := hC.2.2.2.2.1
  refine s_aload_n kx_154_0 rfl ?_
  refine r_getR (k := 0) (f := 2) (k2 := 7) kx_154_1 kp_154_26 (tk_0 hT) kf_11_2 (by decide) (rq_0_2 hI) ?_
  refine r_getR (k := 7) (f := 0) (k2 := t) kx_154_4 kp_154_120 (tk_7 hT) kf_5_0 (by decide) h70 ?_
  refine s_iload_n kx_154_7 rfl ?_
  refine s_callV2 (k := t) (s1 := 2) (s2 := 0) (as := [(0, person)]) (rest := []) kx_154_8 kp_154_164 (Or.inl rfl) rfl (tkt_0 hT ht) ki_107 kcl_107 rfl rfl (by decide) (g_107 (d := d + 6) (person := person) hT hI ht h70 hC) (kF (fun v1 v1p => ?_))
  refine s_if_eq (t := 23) kx_154_11 (by decide) (fun hc2 => ?_) (fun hc2 => ?_)
  · replace v1p := v1p.resolve_left (by omega)
    refine s_iconst (v := (-1)) kx_154_23 (by decide) ?_
    exact s_iret kx_154_24 (Or.inl kq_154) ⟨_, _, rfl, rfl, hI, hFm, (by split; unfold pRt; exact (if_neg (by omega)).symm; rfl)⟩
  · replace v1p := v1p.resolve_right (by omega)
    refine s_aload_n kx_154_14 rfl ?_
    refine s_iload_n kx_154_15 rfl ?_
    refine s_iload_n kx_154_16 rfl ?_
    refine s_callV2 (k := 0) (s1 := 3) (s2 := 0) (as := [(0, room), (0, chair)]) (rest := []) kx_154_17 kp_154_262 (Or.inl rfl) rfl (tk_0 hT) ki_167 kcl_167 rfl rfl (by decide) (g_167 (d := d + 5) (chair := chair) (room := room) hT hI ht h70 hC) (kF (fun v3 v3p => ?_))
    refine s_if_ne (t := 25) kx_154_20 (by decide) (fun hc4 => ?_) (fun hc4 => ?_)
    · replace v3p := v3p.resolve_right (by omega)
      refine s_aload_n kx_154_25 rfl ?_
      refine r_getR (k := 0) (f := 4) (k2 := 46) kx_154_26 kp_154_40 (tk_0 hT) kf_11_4 (by decide) (rq_0_4 hI) ?_
      refine s_aload_n kx_154_29 rfl ?_
      refine r_getR (k := 0) (f := 2) (k2 := 7) kx_154_30 kp_154_26 (tk_0 hT) kf_11_2 (by decide) (rq_0_2 hI) ?_
      refine s_iload_n kx_154_33 rfl ?_
      refine s_iload_n kx_154_34 rfl ?_
      refine s_callV2 (k := 46) (s1 := 4) (s2 := 0) (as := [(0, chair), (0, person), rf 7]) (rest := []) kx_154_35 kp_154_265 (Or.inl rfl) rfl (tk_46 hT) ki_33 kcl_33 rfl rfl (by decide) (g_33 (d := d) (person := person) (chair := chair) hT hI ht h70 hC hG (by omega) (by omega) (by omega) (by omega)) (kV (fun M6 hI6 fr6 v5p => ?_))
      have hFm6 := hFm.call fr6 rfl
      have hc7 := v5p.1
      refine s_aload_n kx_154_38 rfl ?_
      refine r_getR (k := 0) (f := 4) (k2 := 46) kx_154_39 kp_154_40 (tk_0 hT) kf_11_4 (by decide) (rq_0_4 hI6) ?_
      refine s_aload_n kx_154_42 rfl ?_
      refine r_getR (k := 0) (f := 2) (k2 := 7) kx_154_43 kp_154_26 (tk_0 hT) kf_11_2 (by decide) (rq_0_2 hI6) ?_
      refine r_getR (k := 7) (f := 0) (k2 := t) kx_154_46 kp_154_120 (tk_7 hT) kf_5_0 (by decide) ((fr6 7 0 rfl).trans h70) ?_
      refine r_getI (k := t) (f := 0) kx_154_49 kp_154_123 (tkt_0 hT ht) kf_9_0 (fun _ => rfl) (rgt_0_0 hI6 ht) (fun v8 v8e v8a v8b => ?_)
      have v8d : D 0 0 = v8 := ((hc7).1 0 0 (by decide)).symm.trans v8e
      have v8z : M t 0 = v8 := ((fr6 t 0 (by rcases ht with rfl | rfl <;> rfl))).symm.trans v8e
      refine s_aload_n kx_154_52 rfl ?_
      refine r_getR (k := 0) (f := 2) (k2 := 7) kx_154_53 kp_154_26 (tk_0 hT) kf_11_2 (by decide) (rq_0_2 hI6) ?_
      refine s_iload_n kx_154_56 rfl ?_
      refine s_callV2 (k := 7) (s1 := 2) (s2 := 2) (as := [(0, chair)]) (rest := [(0, v8), rf 46]) kx_154_57 kp_154_194 (Or.inl rfl) rfl (tk_7 hT) ki_44 kcl_44 rfl rfl (by decide) (g_44 (d := d + 6) (chair := chair) hT hI6 ht ((fr6 7 0 rfl).trans h70) hc7 (by omega) (by omega)) (kF (fun v9 v9p => ?_))
      refine s_iload_n kx_154_60 rfl ?_
      have hx10 := v5p.2
      refine s_callV2 (k := 46) (s1 := 4) (s2 := 0) (as := [(0, room), (0, v9), (0, v8)]) (rest := []) kx_154_61 kp_154_269 (Or.inl rfl) rfl (tk_46 hT) ki_36 kcl_36 rfl rfl (by decide) (h_36 (d := d + 4) (rooms := v8) (from_ := v9) (to := room) hT hI6 (pr := pPq D S chair person) (fun a b ha hb => (hx10 a b (by omega) (by omega)).1) (fun a b ha hb => pPq_r hD a b (by omega) (by omega)) (by omega) (by omega) (by omega) (by omega) (by omega)) (kV (fun M12 hI12 fr12 v11p => ?_))
      have hFm12 := hFm6.call fr12 rfl
      have hpe : pFe (pPq D S chair person) (pRL 1000000000 D S chair person room) (D 0 0).toNat room.toNat (S 1 chair.toNat) M12 := by have h9 := v11p; rw [show v8 = D 0 0 from v8d.symm, show v9 = S 1 chair.toNat from v9p.2.2.1] at h9; exact h9
      have htb : pTb M12 (D 0 0) (fun a b => pLx D S chair person a b (D 0 1).toNat) := pTb.of hx10 (fun f => fr12 47 f rfl) (fun f => fr12 48 f rfl)
      have hgg : (0 ≤ chair ∧ chair < D 0 1) ∧ (0 ≤ room ∧ room < D 0 0) ∧ S 2 chair.toNat = 0 := ⟨by omega, by omega, by omega⟩
      have hc13 := (CR.fr hc7 fr12 ht rfl)
      refine s_iload kx_154_64 rfl ?_
      refine s_iconst (v := (-1)) kx_154_66 (by decide) ?_
      refine s_icmp_ne (t := 80) kx_154_67 (by decide) (fun hc14 => ?_) (fun hc14 => ?_)
      · refine s_aload_n kx_154_80 rfl ?_
        refine r_getR (k := 0) (f := 4) (k2 := 46) kx_154_81 kp_154_40 (tk_0 hT) kf_11_4 (by decide) (rq_0_4 hI12) ?_
        refine s_iload kx_154_84 rfl ?_
        refine s_callV2 (k := 46) (s1 := 2) (s2 := 0) (as := [(0, k)]) (rest := []) kx_154_86 kp_154_276 (Or.inl rfl) rfl (tk_46 hT) ki_39 kcl_39 rfl rfl (by decide) (h_39 (d := d + 6) (k := k) hT hI12) (kF (fun v15 v15p => ?_))
        exact s_iret kx_154_89 (Or.inl kq_154) ⟨_, _, rfl, rfl, hI12, hFm12, (by rw [if_pos (show 0 ≤ person ∧ person < D 0 1 by omega), v15p]; exact rt_room hgg hpe (show k ≠ -1 by omega))⟩
      · refine s_aload_n kx_154_70 rfl ?_
        refine r_getR (k := 0) (f := 4) (k2 := 46) kx_154_71 kp_154_40 (tk_0 hT) kf_11_4 (by decide) (rq_0_4 hI12) ?_
        refine r_getU (k := 46) (f := 6) kx_154_74 kp_154_273 (tk_46 hT) kf_4_6 (fun _ => rfl) (fun v16 v16e => ?_)
        refine s_goto (t := 89) kx_154_77 (by decide) ?_
        exact s_iret kx_154_89 (Or.inl kq_154) ⟨_, _, rfl, rfl, hI12, hFm12, (by rw [if_pos (show 0 ≤ person ∧ person < D 0 1 by omega), show k = -1 by omega]; exact ((v16e).symm).trans (rt_min (w := 0) hgg hpe))⟩
    · replace v3p := v3p.resolve_left (by omega)
      refine s_iconst (v := (-1)) kx_154_23 (by decide) ?_
      exact s_iret kx_154_24 (Or.inl kq_154) ⟨_, _, rfl, rfl, hI, hFm, (by split; unfold pRt; exact (if_neg (by omega)).symm; rfl)⟩
def gC_155_m : List (Nat × Nat) := [(20, 99999), (23, 99999), (37, 99999), (40, 99999), (43, 99999), (46, 4), (46, 5), (46, 6), (47, 99999), (48, 99999), (49, 99999), (50, 99999)]
theorem g_155 {xs : Nat → Int} {Ln d : Nat} {T : List cK} {M : cM} (hT : TT T) (hI : Rng M) {t : Nat} (ht : t = 8 ∨ t = 25) (h70 : M 7 0 = ((t : Nat) : Int)) {chair room k : Int} {D S : cM} (hC : CR D S t M) (hG : Gm T M) : cC k_P xs Ln (d + 7) 155 [rf 0, (0, chair), (0, room), (0, k)] (T, M) (qW T M gC_155_m 0 (fun v M1 => v = pRt 1000000000 D S chair (-1) room k 1)) := by
  show cP k_P xs Ln (d + 7) 155 0 [(0, rf 0), (1, (0, chair)), (2, (0, room)), (3, (0, k))] [] (T, M) _
  have hFm : Fr gC_155_m M M := Fr.refl
  have hD := hC.2.1
  have hDr := hD.rg
  have hSW := hC.2.2.2.2.1
  refine s_aload_n kx_155_0 rfl ?_
  refine s_iload_n kx_155_1 rfl ?_
  refine s_iload_n kx_155_2 rfl ?_
  refine s_callV2 (k := 0) (s1 := 3) (s2 := 0) (as := [(0, room), (0, chair)]) (rest := []) kx_155_3 kp_155_262 (Or.inl rfl) rfl (tk_0 hT) ki_167 kcl_167 rfl rfl (by decide) (g_167 (d := d + 5) (chair := chair) (room := room) hT hI ht h70 hC) (kF (fun v1 v1p => ?_))
  refine s_if_ne (t := 11) kx_155_6 (by decide) (fun hc2 => ?_) (fun hc2 => ?_)
  · replace v1p := v1p.resolve_right (by omega)
    refine s_aload_n kx_155_11 rfl ?_
    refine r_getR (k := 0) (f := 4) (k2 := 46) kx_155_12 kp_155_40 (tk_0 hT) kf_11_4 (by decide) (rq_0_4 hI) ?_
    refine s_aload_n kx_155_15 rfl ?_
    refine r_getR (k := 0) (f := 2) (k2 := 7) kx_155_16 kp_155_26 (tk_0 hT) kf_11_2 (by decide) (rq_0_2 hI) ?_
    refine s_iload_n kx_155_19 rfl ?_
    refine s_callV2 (k := 46) (s1 := 3) (s2 := 0) (as := [(0, chair), rf 7]) (rest := []) kx_155_20 kp_155_279 (Or.inl rfl) rfl (tk_46 hT) ki_34 kcl_34 rfl rfl (by decide) (g_34 (d := d) (chair := chair) hT hI ht h70 hC hG (by omega) (by omega)) (kV (fun M4 hI4 fr4 v3p => ?_))
    have hFm4 := hFm.call fr4 rfl
    have hc5 := v3p.1
    refine s_aload_n kx_155_23 rfl ?_
    refine r_getR (k := 0) (f := 4) (k2 := 46) kx_155_24 kp_155_40 (tk_0 hT) kf_11_4 (by decide) (rq_0_4 hI4) ?_
    refine s_aload_n kx_155_27 rfl ?_
    refine r_getR (k := 0) (f := 2) (k2 := 7) kx_155_28 kp_155_26 (tk_0 hT) kf_11_2 (by decide) (rq_0_2 hI4) ?_
    refine r_getR (k := 7) (f := 0) (k2 := t) kx_155_31 kp_155_120 (tk_7 hT) kf_5_0 (by decide) ((fr4 7 0 rfl).trans h70) ?_
    refine r_getI (k := t) (f := 0) kx_155_34 kp_155_123 (tkt_0 hT ht) kf_9_0 (fun _ => rfl) (rgt_0_0 hI4 ht) (fun v6 v6e v6a v6b => ?_)
    have v6d : D 0 0 = v6 := ((hc5).1 0 0 (by decide)).symm.trans v6e
    have v6z : M t 0 = v6 := ((fr4 t 0 (by rcases ht with rfl | rfl <;> rfl))).symm.trans v6e
    refine s_aload_n kx_155_37 rfl ?_
    refine r_getR (k := 0) (f := 2) (k2 := 7) kx_155_38 kp_155_26 (tk_0 hT) kf_11_2 (by decide) (rq_0_2 hI4) ?_
    refine s_iload_n kx_155_41 rfl ?_
    refine s_callV2 (k := 7) (s1 := 2) (s2 := 2) (as := [(0, chair)]) (rest := [(0, v6), rf 46]) kx_155_42 kp_155_194 (Or.inl rfl) rfl (tk_7 hT) ki_44 kcl_44 rfl rfl (by decide) (g_44 (d := d + 6) (chair := chair) hT hI4 ht ((fr4 7 0 rfl).trans h70) hc5 (by omega) (by omega)) (kF (fun v7 v7p => ?_))
    refine s_iload_n kx_155_45 rfl ?_
    have hx8 := v3p.2
    refine s_callV2 (k := 46) (s1 := 4) (s2 := 0) (as := [(0, room), (0, v7), (0, v6)]) (rest := []) kx_155_46 kp_155_269 (Or.inl rfl) rfl (tk_46 hT) ki_36 kcl_36 rfl rfl (by decide) (h_36 (d := d + 4) (rooms := v6) (from_ := v7) (to := room) hT hI4 (pr := pPq D S chair (-1)) (fun a b ha hb => (hx8 a b (by omega) (by omega)).1) (fun a b ha hb => pPq_r hD a b (by omega) (by omega)) (by omega) (by omega) (by omega) (by omega) (by omega)) (kV (fun M10 hI10 fr10 v9p => ?_))
    have hFm10 := hFm4.call fr10 rfl
    have hpe : pFe (pPq D S chair (-1)) (pRL 1000000000 D S chair (-1) room) (D 0 0).toNat room.toNat (S 1 chair.toNat) M10 := by have h9 := v9p; rw [show v6 = D 0 0 from v6d.symm, show v7 = S 1 chair.toNat from v7p.2.2.1] at h9; exact h9
    have htb : pTb M10 (D 0 0) (fun a b => pLx D S chair (-1) a b (D 0 1).toNat) := pTb.of hx8 (fun f => fr10 47 f rfl) (fun f => fr10 48 f rfl)
    have hgg : (0 ≤ chair ∧ chair < D 0 1) ∧ (0 ≤ room ∧ room < D 0 0) ∧ S 2 chair.toNat = 0 := ⟨by omega, by omega, by omega⟩
    have hc11 := (CR.fr hc5 fr10 ht rfl)
    refine s_iload_n kx_155_49 rfl ?_
    refine s_iconst (v := (-1)) kx_155_50 (by decide) ?_
    refine s_icmp_ne (t := 64) kx_155_51 (by decide) (fun hc12 => ?_) (fun hc12 => ?_)
    · refine s_aload_n kx_155_64 rfl ?_
      refine r_getR (k := 0) (f := 4) (k2 := 46) kx_155_65 kp_155_40 (tk_0 hT) kf_11_4 (by decide) (rq_0_4 hI10) ?_
      refine s_iload_n kx_155_68 rfl ?_
      refine s_callV2 (k := 46) (s1 := 2) (s2 := 0) (as := [(0, k)]) (rest := []) kx_155_69 kp_155_283 (Or.inl rfl) rfl (tk_46 hT) ki_40 kcl_40 rfl rfl (by decide) (h_40 (d := d + 6) (k := k) hT hI10) (kF (fun v13 v13p => ?_))
      exact s_iret kx_155_72 (Or.inl kq_155) ⟨_, _, rfl, rfl, hI10, hFm10, (by rw [v13p]; exact rt_who hD hSW hgg hpe (show k ≠ -1 by omega) htb)⟩
    · refine s_aload_n kx_155_54 rfl ?_
      refine r_getR (k := 0) (f := 4) (k2 := 46) kx_155_55 kp_155_40 (tk_0 hT) kf_11_4 (by decide) (rq_0_4 hI10) ?_
      refine r_getU (k := 46) (f := 6) kx_155_58 kp_155_273 (tk_46 hT) kf_4_6 (fun _ => rfl) (fun v14 v14e => ?_)
      refine s_goto (t := 72) kx_155_61 (by decide) ?_
      exact s_iret kx_155_72 (Or.inl kq_155) ⟨_, _, rfl, rfl, hI10, hFm10, (by rw [show k = -1 by omega]; exact ((v14e).symm).trans (rt_min (w := 1) hgg hpe))⟩
  · replace v1p := v1p.resolve_left (by omega)
    refine s_iconst (v := (-1)) kx_155_9 (by decide) ?_
    exact s_iret kx_155_10 (Or.inl kq_155) ⟨_, _, rfl, rfl, hI, hFm, (by unfold pRt; exact (if_neg (by omega)).symm)⟩
