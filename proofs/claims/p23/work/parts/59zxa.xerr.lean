theorem g_5 {xs : Nat → Int} {Ln d : Nat} {T : List cK} {M : cM} (hT : TT T) (hI : Rng M) {t : Nat} (ht : t = 8 ∨ t = 25) (h70 : M 7 0 = ((t : Nat) : Int)) {person k : Int} {D S : cM} (hC : CR D S t M) {s : Nat → Int} (hs : M 2 = s) (p0 : 0 ≤ person ∧ person ≤ 7) (p1 : 0 ≤ k ∧ k ≤ 11) (p2 : person < D 0 1) : cC k_P xs Ln (d + 1) 5 [rf 7, rf 1, (0, person), (0, k)] (T, M) (qF T M 0 (fun v => v = pAk S s person k.toNat)) := by
  show cP k_P xs Ln (d + 1) 5 0 [(0, rf 7), (1, rf 1), (2, (0, person)), (3, (0, k))] [] (T, M) _
  have hD := hC.2.1
  have hDr := hD.rg
  have hSW := hC.2.2.2.2.1
  refine s_iload_n kx_5_0 rfl ?_
  refine s_if_ne (t := 12) kx_5_1 (by decide) (fun hc1 => ?_) (fun hc1 => ?_)
  · refine s_aload_n kx_5_12 rfl ?_
    refine r_getR (k := 1) (f := 0) (k2 := 2) kx_5_13 kp_5_43 (tk_1 hT) kf_8_0 (by decide) (rq_1_0 hI) ?_
    refine s_iconst (v := 2) kx_5_16 (by decide) ?_
    refine s_iload_n kx_5_17 rfl ?_
    refine r_mul kx_5_18 ⟨by omega, by omega⟩ ?_
    refine s_iconst (v := 2) kx_5_19 (by decide) ?_
    refine r_sub kx_5_20 ⟨by omega, by omega⟩ ?_
    refine r_ald (k := 2) kx_5_21 (tk_2 hT) ⟨by omega, by omega⟩ (rg_2 hI) (fun v2 v2e v2a v2b => ?_)
    have v2r : s (((2 * k) - 2)).toNat = v2 := (congrFun hs (((2 * k) - 2)).toNat).symm.trans (v2e)
    exact s_iret kx_5_22 (Or.inl kq_5) ⟨_, rfl, rfl, (by unfold pAk; rw [if_neg (by omega), show 2 * k.toNat - 2 = (((2 * k) - 2)).toNat by omega]; exact v2r.symm)⟩
  · refine s_aload_n kx_5_4 rfl ?_
    refine s_iload_n kx_5_5 rfl ?_
    refine s_callV2 (k := 7) (s1 := 2) (s2 := 0) (as := [(0, person)]) (rest := []) kx_5_6 kp_5_39 (Or.inl rfl) rfl (tk_7 hT) ki_43 kcl_43 rfl rfl (by decide) (g_43 (d := d) (person := person) hT hI ht h70 hC (by omega) (by omega)) (kF (fun v3 v3p => ?_))
    refine s_goto (t := 22) kx_5_9 (by decide) ?_
    exact s_iret kx_5_22 (Or.inl kq_5) ⟨_, rfl, rfl, (by unfold pAk; rw [if_pos (by omega)]; exact v3p.2.2.1)⟩
theorem g_8 {xs : Nat → Int} {Ln d : Nat} {T : List cK} {M : cM} (hT : TT T) (hI : Rng M) {t : Nat} (ht : t = 8 ∨ t = 25) (h70 : M 7 0 = ((t : Nat) : Int)) {person k chairRoom minutes : Int} {D S : cM} (hC : CR D S t M) {s : Nat → Int} (hs : M 2 = s) {b : Int} (hb : M 52 ((k + 1) * 8 + chairRoom).toNat = pCd b) (hbr : b = -1 ∨ (0 ≤ b ∧ b ≤ 20000)) (p0 : 0 ≤ person ∧ person ≤ 7) (p1 : 0 ≤ k ∧ k ≤ 11) (p2 : 0 ≤ chairRoom ∧ chairRoom ≤ 7) (p3 : 0 ≤ minutes ∧ minutes ≤ 1059) (p4 : person < D 0 1) : cC k_P xs Ln (d + 2) 8 [rf 51, rf 7, rf 1, (0, person), (0, k), (0, chairRoom), (0, minutes)] (T, M) (qF T M 0 (fun v => v = pCd (if pOa D S s person k.toNat chairRoom then pPl minutes b else -1))) := by
  show cP k_P xs Ln (d + 2) 8 0 [(0, rf 51), (1, rf 7), (2, rf 1), (3, (0, person)), (4, (0, k)), (5, (0, chairRoom)), (6, (0, minutes))] [] (T, M) _
  have hD := hC.2.1
  have hDr := hD.rg
  have hSW := hC.2.2.2.2.1
  refine s_aload_n kx_8_0 rfl ?_
  refine r_getR (k := 1) (f := 0) (k2 := 2) kx_8_1 kp_8_43 (tk_1 hT) kf_8_0 (by decide) (rq_1_0 hI) ?_
  refine s_iconst (v := 2) kx_8_4 (by decide) ?_
  refine s_iload kx_8_5 rfl ?_
  refine r_mul kx_8_7 ⟨by omega, by omega⟩ ?_
  refine s_iconst (v := 1) kx_8_8 (by decide) ?_
  refine r_add kx_8_9 ⟨by omega, by omega⟩ ?_
  refine r_ald (k := 2) kx_8_10 (tk_2 hT) ⟨by omega, by omega⟩ (rg_2 hI) (fun v1 v1e v1a v1b => ?_)
  have v1r : s (((2 * k) + 1)).toNat = v1 := (congrFun hs (((2 * k) + 1)).toNat).symm.trans (v1e)
  have v1k : s (2 * k.toNat + 1) = v1 := (congrArg s (by omega)).trans v1r
  refine s_iconst (v := 1) kx_8_11 (by decide) ?_
  refine s_icmp_ne (t := 19) kx_8_12 (by decide) (fun hc2 => ?_) (fun hc2 => ?_)
  · refine s_iconst (v := 0) kx_8_19 (by decide) ?_
    refine s_istore kx_8_20 km_8_7 rfl ?_
    refine s_iload kx_8_22 rfl ?_
    refine s_if_eq (t := 49) kx_8_24 (by decide) (fun hc3 => ?_) (fun hc3 => absurd hc3 (by decide))
    refine s_ldc kx_8_49 kp_8_74 ?_
    refine s_iload kx_8_51 rfl ?_
    refine s_aload_n kx_8_53 rfl ?_
    refine r_getR (k := 51) (f := 0) (k2 := 52) kx_8_54 kp_8_9 (tk_51 hT) kf_0_0 (by decide) (rq_51_0 hI) ?_
    refine s_iload kx_8_57 rfl ?_
    refine s_iconst (v := 1) kx_8_59 (by decide) ?_
    refine r_add kx_8_60 ⟨by omega, by omega⟩ ?_
    refine s_bipush (v := 8) kx_8_61 (by decide) ?_
    refine r_mul kx_8_63 ⟨by omega, by omega⟩ ?_
    refine s_iload kx_8_64 rfl ?_
    refine r_add kx_8_66 ⟨by omega, by omega⟩ ?_
    refine r_aldU (k := 52) kx_8_67 (tk_52 hT) ⟨by omega, by omega⟩ (fun v4 v4e => ?_)
    have v4v : pCd b = v4 := hb.symm.trans (v4e)
    have v4w := pCd_r hbr
    rw [v4v] at v4w
    refine r_add kx_8_68 ⟨by omega, by omega⟩ ?_
    refine s_callS2 (s1 := 2) (s2 := 0) (as := [(0, (minutes + v4)), (0, 1000000000)]) (rest := []) kx_8_69 kp_8_66 rfl kcl_299 rfl rfl (by decide) (m_299 (d := d + 1) (a := 1000000000) (b := (minutes + v4)) hT hI) (kF (fun v5 v5p => ?_))
    exact s_iret kx_8_72 (Or.inl kq_8) ⟨_, rfl, rfl, (ar_sum (x2 := 0) v1k (Or.inl (by omega)) ⟨by omega, by omega⟩ hbr (by rw [v4v]; omega))⟩
  · refine s_iconst (v := 1) kx_8_15 (by decide) ?_
    refine s_goto (t := 20) kx_8_16 (by decide) ?_
    refine s_istore kx_8_20 km_8_7 rfl ?_
    refine s_iload kx_8_22 rfl ?_
    refine s_if_eq (t := 49) kx_8_24 (by decide) (fun hc6 => absurd hc6 (by decide)) (fun hc6 => ?_)
    refine s_aload_n kx_8_27 rfl ?_
    refine s_iload_n kx_8_28 rfl ?_
    refine s_aload_n kx_8_29 rfl ?_
    refine r_getR (k := 1) (f := 0) (k2 := 2) kx_8_30 kp_8_43 (tk_1 hT) kf_8_0 (by decide) (rq_1_0 hI) ?_
    refine s_iconst (v := 2) kx_8_33 (by decide) ?_
    refine s_iload kx_8_34 rfl ?_
    refine r_mul kx_8_36 ⟨by omega, by omega⟩ ?_
    refine r_ald (k := 2) kx_8_37 (tk_2 hT) ⟨by omega, by omega⟩ (rg_2 hI) (fun v7 v7e v7a v7b => ?_)
    have v7r : s ((2 * k)).toNat = v7 := (congrFun hs ((2 * k)).toNat).symm.trans (v7e)
    have v7k : s (2 * k.toNat) = v7 := (congrArg s (by omega)).trans v7r
    refine s_iload kx_8_38 rfl ?_
    refine s_callV2 (k := 7) (s1 := 4) (s2 := 0) (as := [(0, chairRoom), (0, v7), (0, person)]) (rest := []) kx_8_40 kp_8_98 (Or.inl rfl) rfl (tk_7 hT) ki_59 kcl_59 rfl rfl (by decide) (g_59 (d := d) (person := person) (room := v7) (own := chairRoom) hT hI ht h70 hC (by omega) (by omega)) (kF (fun v8 v8p => ?_))
    refine s_if_ne (t := 49) kx_8_43 (by decide) (fun hc9 => ?_) (fun hc9 => ?_)
    · replace v8p := v8p.resolve_right (by omega)
      refine s_ldc kx_8_49 kp_8_74 ?_
      refine s_iload kx_8_51 rfl ?_
      refine s_aload_n kx_8_53 rfl ?_
      refine r_getR (k := 51) (f := 0) (k2 := 52) kx_8_54 kp_8_9 (tk_51 hT) kf_0_0 (by decide) (rq_51_0 hI) ?_
      refine s_iload kx_8_57 rfl ?_
      refine s_iconst (v := 1) kx_8_59 (by decide) ?_
      refine r_add kx_8_60 ⟨by omega, by omega⟩ ?_
      refine s_bipush (v := 8) kx_8_61 (by decide) ?_
      refine r_mul kx_8_63 ⟨by omega, by omega⟩ ?_
      refine s_iload kx_8_64 rfl ?_
      refine r_add kx_8_66 ⟨by omega, by omega⟩ ?_
      refine r_aldU (k := 52) kx_8_67 (tk_52 hT) ⟨by omega, by omega⟩ (fun v10 v10e => ?_)
      have v10v : pCd b = v10 := hb.symm.trans (v10e)
      have v10w := pCd_r hbr
      rw [v10v] at v10w
      refine r_add kx_8_68 ⟨by omega, by omega⟩ ?_
      refine s_callS2 (s1 := 2) (s2 := 0) (as := [(0, (minutes + v10)), (0, 1000000000)]) (rest := []) kx_8_69 kp_8_66 rfl kcl_299 rfl rfl (by decide) (m_299 (d := d + 1) (a := 1000000000) (b := (minutes + v10)) hT hI) (kF (fun v11 v11p => ?_))
      exact s_iret kx_8_72 (Or.inl kq_8) ⟨_, rfl, rfl, (ar_sum (x2 := v7) v1k (Or.inr ⟨v7k, by omega⟩) ⟨by omega, by omega⟩ hbr (by rw [v10v]; omega))⟩
    · replace v8p := v8p.resolve_left (by omega)
      refine s_ldc kx_8_46 kp_8_74 ?_
      exact s_iret kx_8_48 (Or.inl kq_8) ⟨_, rfl, rfl, (ar_far v1k v7k (by omega) (by omega))⟩
theorem g_6 {xs : Nat → Int} {Ln d : Nat} {T : List cK} {M : cM} (hT : TT T) (hI : Rng M) {t : Nat} (ht : t = 8 ∨ t = 25) (h70 : M 7 0 = ((t : Nat) : Int)) {person k chairRoom : Int} {D S : cM} (hC : CR D S t M) {s : Nat → Int} (hs : M 2 = s) {b : Int} (hb : M 52 ((k + 1) * 8 + chairRoom).toNat = pCd b) (hbr : b = -1 ∨ (0 ≤ b ∧ b ≤ 20000)) (p0 : 0 ≤ person ∧ person ≤ 7) (p1 : 0 ≤ k ∧ k ≤ 11) (p2 : 0 ≤ chairRoom ∧ chairRoom ≤ 7) (p3 : person < D 0 1) : cC k_P xs Ln (d + 3) 6 [rf 51, rf 7, rf 1, (0, person), (0, k), (0, chairRoom)] (T, M) (qF T M 0 (fun v => v = pCd (pVa D S s person k.toNat chairRoom b))) := by
  show cP k_P xs Ln (d + 3) 6 0 [(0, rf 51), (1, rf 7), (2, rf 1), (3, (0, person)), (4, (0, k)), (5, (0, chairRoom))] [] (T, M) _
  have hD := hC.2.1
  have hDr := hD.rg
  have hSW := hC.2.2.2.2.1
  refine s_aload_n kx_6_0 rfl ?_
  refine r_getR (k := 7) (f := 0) (k2 := t) kx_6_1 kp_6_27 (tk_7 hT) kf_5_0 (by decide) h70 ?_
  refine s_aload_n kx_6_4 rfl ?_
  refine s_aload_n kx_6_5 rfl ?_
  refine s_iload_n kx_6_6 rfl ?_
  refine s_iload kx_6_7 rfl ?_
  refine s_callS2 (s1 := 4) (s2 := 1) (as := [(0, k), (0, person), rf 1, rf 7]) (rest := [rf t]) kx_6_9 kp_6_79 rfl kcl_5 rfl rfl (by decide) (g_5 (d := d + 1) (person := person) (k := k) hT hI ht h70 hC hs (by omega) (by omega) (by omega)) (kF (fun v1 v1p => ?_))
  have v1q : v1 = pAk S s person k.toNat := v1p
  refine s_aload_n kx_6_12 rfl ?_
  refine r_getR (k := 1) (f := 0) (k2 := 2) kx_6_13 kp_6_43 (tk_1 hT) kf_8_0 (by decide) (rq_1_0 hI) ?_
  refine s_iconst (v := 2) kx_6_16 (by decide) ?_
  refine s_iload kx_6_17 rfl ?_
  refine r_mul kx_6_19 ⟨by omega, by omega⟩ ?_
  refine r_ald (k := 2) kx_6_20 (tk_2 hT) ⟨by omega, by omega⟩ (rg_2 hI) (fun v2 v2e v2a v2b => ?_)
  have v2r : s ((2 * k)).toNat = v2 := (congrFun hs ((2 * k)).toNat).symm.trans (v2e)
  have v2k : s (2 * k.toNat) = v2 := (congrArg s (by omega)).trans v2r
  refine s_callV2 (k := t) (s1 := 3) (s2 := 0) (as := [(0, v2), (0, v1)]) (rest := []) kx_6_21 kp_6_46 (Or.inl rfl) rfl (tkt_0 hT ht) ki_117 kcl_117 rfl rfl (by decide) (g_117 (d := d + 1) (a := v1) (b := v2) hT hI ht h70 hC) (kF (fun v3 v3p => ?_))
  have v3q : v3 = pWk D S s person k.toNat := by unfold pWk; rw [v2k, ← v1q]; exact v3p.1
  refine s_istore kx_6_24 km_6_6 rfl ?_
  refine s_aload_n kx_6_26 rfl ?_
  refine s_aload_n kx_6_27 rfl ?_
  refine s_aload_n kx_6_28 rfl ?_
  refine s_iload_n kx_6_29 rfl ?_
  refine s_iload kx_6_30 rfl ?_
  refine s_iload kx_6_32 rfl ?_
  refine s_iload kx_6_34 rfl ?_
  refine s_callV2 (k := 51) (s1 := 7) (s2 := 0) (as := [(0, v3), (0, chairRoom), (0, k), (0, person), rf 1, rf 7]) (rest := []) kx_6_36 kp_6_83 (Or.inl rfl) rfl (tk_51 hT) ki_8 kcl_8 rfl rfl (by decide) (g_8 (d := d) (person := person) (k := k) (chairRoom := chairRoom) (minutes := v3) hT hI ht h70 hC hs hb hbr (by omega) (by omega) (by omega) (by omega) (by omega)) (kF (fun v4 v4p => ?_))
  exact s_iret kx_6_39 (Or.inl kq_6) ⟨_, rfl, rfl, (by rw [v4p, v3q]; rfl)⟩
def gC_7_m : List (Nat × Nat) := [(20, 99999), (23, 99999), (37, 99999), (40, 99999), (43, 99999)]
theorem g_7 {xs : Nat → Int} {Ln d : Nat} {T : List cK} {M : cM} (hT : TT T) (hI : Rng M) {t : Nat} (ht : t = 8 ∨ t = 25) (h70 : M 7 0 = ((t : Nat) : Int)) {person k chairRoom : Int} {D S : cM} (hC : CR D S t M) (hG : Gm T M) {s : Nat → Int} (hs : M 2 = s) {b : Int} (hb : M 52 ((k + 1) * 8 + s (2 * k.toNat)).toNat = pCd b) (hbr : b = -1 ∨ (0 ≤ b ∧ b ≤ 20000)) (hw : 0 < pWk D S s person k.toNat) (p0 : 0 ≤ person ∧ person ≤ 7) (p1 : 0 ≤ k ∧ k ≤ 11) (p2 : 0 ≤ chairRoom ∧ chairRoom ≤ 7) (p3 : person < D 0 1) : cC k_P xs Ln (d + 5) 7 [rf 51, rf 7, rf 1, (0, person), (0, k), (0, chairRoom)] (T, M) (qW T M gC_7_m 0 (fun v M1 => v = pCd (pVw D S s person k.toNat chairRoom b))) := by
  show cP k_P xs Ln (d + 5) 7 0 [(0, rf 51), (1, rf 7), (2, rf 1), (3, (0, person)), (4, (0, k)), (5, (0, chairRoom))] [] (T, M) _
  have hFm : Fr gC_7_m M M := Fr.refl
  have hD := hC.2.1
  have hDr := hD.rg
  have hSW := hC.2.2.2.2.1
  refine s_aload_n kx_7_0 rfl ?_
  refine s_aload_n kx_7_1 rfl ?_
  refine s_iload_n kx_7_2 rfl ?_
  refine s_iload kx_7_3 rfl ?_
  refine s_callS2 (s1 := 4) (s2 := 0) (as := [(0, k), (0, person), rf 1, rf 7]) (rest := []) kx_7_5 kp_7_79 rfl kcl_5 rfl rfl (by decide) (g_5 (d := d + 3) (person := person) (k := k) hT hI ht h70 hC hs (by omega) (by omega) (by omega)) (kF (fun v1 v1p => ?_))
  have v1q : v1 = pAk S s person k.toNat := v1p
  refine s_istore kx_7_8 km_7_6 rfl ?_
  refine s_aload_n kx_7_10 rfl ?_
  refine r_getR (k := 1) (f := 0) (k2 := 2) kx_7_11 kp_7_43 (tk_1 hT) kf_8_0 (by decide) (rq_1_0 hI) ?_
  refine s_iconst (v := 2) kx_7_14 (by decide) ?_
  refine s_iload kx_7_15 rfl ?_
  refine r_mul kx_7_17 ⟨by omega, by omega⟩ ?_
  refine r_ald (k := 2) kx_7_18 (tk_2 hT) ⟨by omega, by omega⟩ (rg_2 hI) (fun v2 v2e v2a v2b => ?_)
  have v2r : s ((2 * k)).toNat = v2 := (congrFun hs ((2 * k)).toNat).symm.trans (v2e)
  have v2k : s (2 * k.toNat) = v2 := (congrArg s (by omega)).trans v2r
  have v2o := (pWk_r hD hw).2.1
  rw [v2k] at v2o
  refine s_istore kx_7_19 km_7_7 rfl ?_
  refine s_iload kx_7_21 rfl ?_
  refine s_iload kx_7_23 rfl ?_
  refine s_icmp_ne (t := 46) kx_7_25 (by decide) (fun hc3 => ?_) (fun hc3 => ?_)
  · refine s_ldc kx_7_46 kp_7_74 ?_
    exact s_iret kx_7_48 (Or.inl kq_7) ⟨_, _, rfl, rfl, hI, hFm, (wi_far (fun z => by have h9 := z.1; have h8 := z.2.2; rw [v2k] at h8; have h7 := z.2.1; omega))⟩
  · refine s_aload_n kx_7_28 rfl ?_
    refine s_iload_n kx_7_29 rfl ?_
    refine s_callV2 (k := 7) (s1 := 2) (s2 := 0) (as := [(0, person)]) (rest := []) kx_7_30 kp_7_87 (Or.inl rfl) rfl (tk_7 hT) ki_45 kcl_45 rfl rfl (by decide) (g_45 (d := d + 4) (chair := person) hT hI ht h70 hC (by omega) (by omega)) (kF (fun v4 v4p => ?_))
    refine s_if_ne (t := 46) kx_7_33 (by decide) (fun hc5 => ?_) (fun hc5 => ?_)
    · replace v4p := v4p.resolve_right (by omega)
      refine s_ldc kx_7_46 kp_7_74 ?_
      exact s_iret kx_7_48 (Or.inl kq_7) ⟨_, _, rfl, rfl, hI, hFm, (wi_far (fun z => by have h9 := z.1; have h8 := z.2.2; rw [v2k] at h8; have h7 := z.2.1; omega))⟩
    · replace v4p := v4p.resolve_left (by omega)
      refine s_aload_n kx_7_36 rfl ?_
      refine s_iload kx_7_37 rfl ?_
      refine s_iload_n kx_7_39 rfl ?_
      refine s_callV2 (k := 7) (s1 := 3) (s2 := 0) (as := [(0, person), (0, v2)]) (rest := []) kx_7_40 kp_7_90 (Or.inl rfl) rfl (tk_7 hT) ki_57 kcl_57 rfl rfl (by decide) (g_57 (d := d + 2) (room := v2) (chair := person) hT hI ht h70 hC) (kF (fun v6 v6p => ?_))
      refine s_if_ne (t := 49) kx_7_43 (by decide) (fun hc7 => ?_) (fun hc7 => ?_)
      · replace v6p := v6p.resolve_right (by omega)
        refine s_aload_n kx_7_49 rfl ?_
        refine s_iload_n kx_7_50 rfl ?_
        refine s_iload_n kx_7_51 rfl ?_
        refine s_aload_n kx_7_52 rfl ?_
        refine r_getR (k := 7) (f := 0) (k2 := t) kx_7_53 kp_7_27 (tk_7 hT) kf_5_0 (by decide) h70 ?_
        refine s_iload kx_7_56 rfl ?_
        refine s_iload kx_7_58 rfl ?_
        refine s_callV2 (k := t) (s1 := 3) (s2 := 3) (as := [(0, v2), (0, v1)]) (rest := [(0, person), (0, person), rf 7]) kx_7_60 kp_7_46 (Or.inl rfl) rfl (tkt_0 hT ht) ki_117 kcl_117 rfl rfl (by decide) (g_117 (d := d + 3) (a := v1) (b := v2) hT hI ht h70 hC) (kF (fun v8 v8p => ?_))
        have v8q : v8 = pWk D S s person k.toNat := by unfold pWk; rw [v2k, ← v1q]; exact v8p.1
        have v8r := (pWk_r hD hw).2.2
        have v8n := hw
        rw [← v8q] at v8r v8n
        refine s_callV2 (k := 7) (s1 := 4) (s2 := 0) (as := [(0, v8), (0, person), (0, person)]) (rest := []) kx_7_63 kp_7_94 (Or.inl rfl) rfl (tk_7 hT) ki_62 kcl_62 rfl rfl (by decide) (g_62 (d := d) (person := person) (chair := person) (wayMinutes := v8) hT hI ht h70 hC hG (by omega) (by omega) (by omega) (by omega) (by omega)) (kW (fun v9 M10 hI10 fr10 v9p => ?_))
        have hFm10 := hFm.call fr10 rfl
        have v9q : v9 = pCy D S person person (pWk D S s person k.toNat) := by have h9 := v9p.2.2; rw [if_neg (by omega), v8q] at h9; exact h9
        refine s_istore kx_7_66 km_7_8 rfl ?_
        refine s_aload_n kx_7_68 rfl ?_
        refine s_aload_n kx_7_69 rfl ?_
        refine s_aload_n kx_7_70 rfl ?_
        refine s_iload_n kx_7_71 rfl ?_
        refine s_iload kx_7_72 rfl ?_
        refine s_iload kx_7_74 rfl ?_
        refine s_iload kx_7_76 rfl ?_
        refine s_callV2 (k := 51) (s1 := 7) (s2 := 0) (as := [(0, v9), (0, v2), (0, k), (0, person), rf 1, rf 7]) (rest := []) kx_7_78 kp_7_83 (Or.inl rfl) rfl (tk_51 hT) ki_8 kcl_8 rfl rfl (by decide) (g_8 (d := d + 2) (person := person) (k := k) (chairRoom := v2) (minutes := v9) hT hI10 ht ((fr10 7 0 rfl).trans h70) (CR.fr hC fr10 ht rfl) ((funext fun i => (fr10 2 _ rfl)).trans hs) (by rw [← v2k]; exact (((fr10 52 _ rfl)).trans hb)) hbr (by omega) (by omega) (by omega) (by omega) (by omega)) (kF (fun v11 v11p => ?_))
        exact s_iret kx_7_81 (Or.inl kq_7) ⟨_, _, rfl, rfl, hI10, hFm10, (wi_fin v2k ⟨by omega, by omega, by rw [v2k]; omega⟩ v11p v9q)⟩
      · replace v6p := v6p.resolve_left (by omega)
        refine s_ldc kx_7_46 kp_7_74 ?_
        exact s_iret kx_7_48 (Or.inl kq_7) ⟨_, _, rfl, rfl, hI, hFm, (wi_far (fun z => by have h9 := z.1; have h8 := z.2.2; rw [v2k] at h8; have h7 := z.2.1; omega))⟩
