theorem g_2 {xs : Nat → Int} {Ln d : Nat} {T : List cK} {M : cM} (hT : TT T) (hI : Rng M) {t : Nat} (ht : t = 8 ∨ t = 25) (h70 : M 7 0 = ((t : Nat) : Int)) {person : Int} {D S : cM} (hC : CR D S t M) {s : Nat → Int} (hs : M 2 = s) : cC k_P xs Ln (d + 2) 2 [rf 51, rf 7, rf 1, (0, person)] (T, M) (qF T M 0 (fun v => (v = 1 ∧ pEt D S s (M 1 1) person = 1 ∧ 0 ≤ person ∧ person ≤ 7 ∧ 2 ≤ M 1 1 ∧ M 1 1 ≤ 24 ∧ M 1 1 % 2 = 0 ∧ ∀ q : Int, 0 ≤ q → 2 * q < M 1 1 → 0 ≤ M 2 (2 * q).toNat ∧ M 2 (2 * q).toNat ≤ 7) ∨ (v = 0 ∧ pEt D S s (M 1 1) person = 0))) := by
  show cP k_P xs Ln (d + 2) 2 0 [(0, rf 51), (1, rf 7), (2, rf 1), (3, (0, person))] [] (T, M) _
  have hD := hC.2.1
  have hDr := hD.rg
  have hSW := hC.2.2.2.2
  refine s_aload_n kx_2_0 rfl ?_
  refine r_getI (k := 1) (f := 1) kx_2_1 kp_2_22 (tk_1 hT) kf_8_1 (fun _ => rfl) (rg_1_1 hI) (fun v1 v1e v1a v1b => ?_)
  refine s_iconst (v := 2) kx_2_4 (by decide) ?_
  refine s_icmp_lt (t := 30) kx_2_5 (by decide) (fun hc2 => ?_) (fun hc2 => ?_)
  · refine s_iconst (v := 0) kx_2_30 (by decide) ?_
    refine s_istore kx_2_31 km_2_4 rfl ?_
    refine s_aload_n kx_2_33 rfl ?_
    refine r_getR (k := 7) (f := 0) (k2 := t) kx_2_34 kp_2_27 (tk_7 hT) kf_5_0 (by decide) h70 ?_
    refine s_iload_n kx_2_37 rfl ?_
    refine s_callV2 (k := t) (s1 := 2) (s2 := 0) (as := [(0, person)]) (rest := []) kx_2_38 kp_2_33 (Or.inl rfl) rfl (tkt_0 hT ht) ki_107 kcl_107 rfl rfl (by decide) (g_107 (d := d + 1) (person := person) hT hI ht h70 hC) (kF (fun v3 v3p => ?_))
    refine s_if_eq (t := 49) kx_2_41 (by decide) (fun hc4 => ?_) (fun hc4 => ?_)
    · replace v3p := v3p.resolve_left (by omega)
      refine s_iconst (v := 0) kx_2_49 (by decide) ?_
      exact s_iret kx_2_50 (Or.inr ⟨kq_2, by omega⟩) ⟨_, rfl, rfl, (Or.inr ⟨rfl, by unfold pEt; exact if_neg (by omega)⟩)⟩
    · replace v3p := v3p.resolve_right (by omega)
      refine s_iload kx_2_44 rfl ?_
      refine s_if_ne (t := 51) kx_2_46 (by decide) (fun hc5 => absurd hc5 (by decide)) (fun hc5 => ?_)
      refine s_iconst (v := 0) kx_2_49 (by decide) ?_
      exact s_iret kx_2_50 (Or.inr ⟨kq_2, by omega⟩) ⟨_, rfl, rfl, (Or.inr ⟨rfl, by unfold pEt; exact if_neg (by omega)⟩)⟩
  · refine s_aload_n kx_2_8 rfl ?_
    refine r_getK (k := 1) (f := 1) kx_2_9 kp_2_22 (tk_1 hT) kf_8_1 (fun _ => rfl) v1e ?_
    refine s_bipush (v := 24) kx_2_12 (by decide) ?_
    refine s_icmp_gt (t := 30) kx_2_14 (by decide) (fun hc6 => ?_) (fun hc6 => ?_)
    · refine s_iconst (v := 0) kx_2_30 (by decide) ?_
      refine s_istore kx_2_31 km_2_4 rfl ?_
      refine s_aload_n kx_2_33 rfl ?_
      refine r_getR (k := 7) (f := 0) (k2 := t) kx_2_34 kp_2_27 (tk_7 hT) kf_5_0 (by decide) h70 ?_
      refine s_iload_n kx_2_37 rfl ?_
      refine s_callV2 (k := t) (s1 := 2) (s2 := 0) (as := [(0, person)]) (rest := []) kx_2_38 kp_2_33 (Or.inl rfl) rfl (tkt_0 hT ht) ki_107 kcl_107 rfl rfl (by decide) (g_107 (d := d + 1) (person := person) hT hI ht h70 hC) (kF (fun v7 v7p => ?_))
      refine s_if_eq (t := 49) kx_2_41 (by decide) (fun hc8 => ?_) (fun hc8 => ?_)
      · replace v7p := v7p.resolve_left (by omega)
        refine s_iconst (v := 0) kx_2_49 (by decide) ?_
        exact s_iret kx_2_50 (Or.inr ⟨kq_2, by omega⟩) ⟨_, rfl, rfl, (Or.inr ⟨rfl, by unfold pEt; exact if_neg (by omega)⟩)⟩
      · replace v7p := v7p.resolve_right (by omega)
        refine s_iload kx_2_44 rfl ?_
        refine s_if_ne (t := 51) kx_2_46 (by decide) (fun hc9 => absurd hc9 (by decide)) (fun hc9 => ?_)
        refine s_iconst (v := 0) kx_2_49 (by decide) ?_
        exact s_iret kx_2_50 (Or.inr ⟨kq_2, by omega⟩) ⟨_, rfl, rfl, (Or.inr ⟨rfl, by unfold pEt; exact if_neg (by omega)⟩)⟩
    · refine s_aload_n kx_2_17 rfl ?_
      refine r_getK (k := 1) (f := 1) kx_2_18 kp_2_22 (tk_1 hT) kf_8_1 (fun _ => rfl) v1e ?_
      refine s_iconst (v := 2) kx_2_21 (by decide) ?_
      refine r_irem kx_2_22 (by omega) (by omega) (by omega) (by omega) ?_
      refine s_if_ne (t := 30) kx_2_23 (by decide) (fun hc10 => ?_) (fun hc10 => ?_)
      · refine s_iconst (v := 0) kx_2_30 (by decide) ?_
        refine s_istore kx_2_31 km_2_4 rfl ?_
        refine s_aload_n kx_2_33 rfl ?_
        refine r_getR (k := 7) (f := 0) (k2 := t) kx_2_34 kp_2_27 (tk_7 hT) kf_5_0 (by decide) h70 ?_
        refine s_iload_n kx_2_37 rfl ?_
        refine s_callV2 (k := t) (s1 := 2) (s2 := 0) (as := [(0, person)]) (rest := []) kx_2_38 kp_2_33 (Or.inl rfl) rfl (tkt_0 hT ht) ki_107 kcl_107 rfl rfl (by decide) (g_107 (d := d + 1) (person := person) hT hI ht h70 hC) (kF (fun v11 v11p => ?_))
        refine s_if_eq (t := 49) kx_2_41 (by decide) (fun hc12 => ?_) (fun hc12 => ?_)
        · replace v11p := v11p.resolve_left (by omega)
          refine s_iconst (v := 0) kx_2_49 (by decide) ?_
          exact s_iret kx_2_50 (Or.inr ⟨kq_2, by omega⟩) ⟨_, rfl, rfl, (Or.inr ⟨rfl, by unfold pEt; exact if_neg (by omega)⟩)⟩
        · replace v11p := v11p.resolve_right (by omega)
          refine s_iload kx_2_44 rfl ?_
          refine s_if_ne (t := 51) kx_2_46 (by decide) (fun hc13 => absurd hc13 (by decide)) (fun hc13 => ?_)
          refine s_iconst (v := 0) kx_2_49 (by decide) ?_
          exact s_iret kx_2_50 (Or.inr ⟨kq_2, by omega⟩) ⟨_, rfl, rfl, (Or.inr ⟨rfl, by unfold pEt; exact if_neg (by omega)⟩)⟩
      · refine s_iconst (v := 1) kx_2_26 (by decide) ?_
        refine s_goto (t := 31) kx_2_27 (by decide) ?_
        refine s_istore kx_2_31 km_2_4 rfl ?_
        refine s_aload_n kx_2_33 rfl ?_
        refine r_getR (k := 7) (f := 0) (k2 := t) kx_2_34 kp_2_27 (tk_7 hT) kf_5_0 (by decide) h70 ?_
        refine s_iload_n kx_2_37 rfl ?_
        refine s_callV2 (k := t) (s1 := 2) (s2 := 0) (as := [(0, person)]) (rest := []) kx_2_38 kp_2_33 (Or.inl rfl) rfl (tkt_0 hT ht) ki_107 kcl_107 rfl rfl (by decide) (g_107 (d := d + 1) (person := person) hT hI ht h70 hC) (kF (fun v14 v14p => ?_))
        refine s_if_eq (t := 49) kx_2_41 (by decide) (fun hc15 => ?_) (fun hc15 => ?_)
        · replace v14p := v14p.resolve_left (by omega)
          refine s_iconst (v := 0) kx_2_49 (by decide) ?_
          exact s_iret kx_2_50 (Or.inr ⟨kq_2, by omega⟩) ⟨_, rfl, rfl, (Or.inr ⟨rfl, by unfold pEt; exact if_neg (by omega)⟩)⟩
        · replace v14p := v14p.resolve_right (by omega)
          refine s_iload kx_2_44 rfl ?_
          refine s_if_ne (t := 51) kx_2_46 (by decide) (fun hc16 => ?_) (fun hc16 => absurd hc16 (by decide))
          refine s_aload_n kx_2_51 rfl ?_
          refine s_iload_n kx_2_52 rfl ?_
          refine s_callV2 (k := 7) (s1 := 2) (s2 := 0) (as := [(0, person)]) (rest := []) kx_2_53 kp_2_39 (Or.inl rfl) rfl (tk_7 hT) ki_43 kcl_43 rfl rfl (by decide) (g_43 (d := d + 1) (person := person) hT hI ht h70 hC (by omega) (by omega)) (kF (fun v17 v17p => ?_))
          refine s_istore kx_2_56 km_2_5 rfl ?_
          refine s_iconst (v := 0) kx_2_58 (by decide) ?_
          refine s_istore kx_2_59 km_2_6 rfl ?_
          have key20 : ∀ n21 : Nat, ∀ (x5_18 x6_19 : Int), (0 ≤ x6_19) → (x6_19 ≤ 24) → (x6_19 % 2 = 0) → (x6_19 ≤ M 1 1) → (x5_18 = pEa S s person (x6_19 / 2)) → (pAll (cEr D S s person) (x6_19 / 2).toNat = 1) → (0 ≤ x6_19) → (∀ q : Int, 0 ≤ q → 2 * q < x6_19 → 0 ≤ M 2 (2 * q).toNat ∧ M 2 (2 * q).toNat ≤ 7) → (2147483647 - x6_19).toNat < n21 → cP k_P xs Ln (d + 2) 2 61 [(1, rf 7), (2, rf 1), (5, (0, x5_18)), (6, (0, x6_19))] [] (T, M) (qF T M 0 (fun v => (v = 1 ∧ pEt D S s (M 1 1) person = 1 ∧ 0 ≤ person ∧ person ≤ 7 ∧ 2 ≤ M 1 1 ∧ M 1 1 ≤ 24 ∧ M 1 1 % 2 = 0 ∧ ∀ q : Int, 0 ≤ q → 2 * q < M 1 1 → 0 ≤ M 2 (2 * q).toNat ∧ M 2 (2 * q).toNat ≤ 7) ∨ (v = 0 ∧ pEt D S s (M 1 1) person = 0))) := by
            intro n21
            induction n21 with
            | zero => intro x5_18 x6_19 i22 i23 i24 i25 i26 i27 i28 i29 hm30; exact absurd hm30 (Nat.not_lt_zero _)
            | succ n21 ih31 =>
              intro x5_18 x6_19 i22 i23 i24 i25 i26 i27 i28 i29 hm30
              refine s_iload kx_2_61 rfl ?_
              refine s_iconst (v := 1) kx_2_63 (by decide) ?_
              refine r_add kx_2_64 ⟨by omega, by omega⟩ ?_
              refine s_aload_n kx_2_65 rfl ?_
              refine r_getK (k := 1) (f := 1) kx_2_66 kp_2_22 (tk_1 hT) kf_8_1 (fun _ => rfl) v1e ?_
              refine s_icmp_ge (t := 121) kx_2_69 (by decide) (fun hc32 => ?_) (fun hc32 => ?_)
              · refine s_iconst (v := 1) kx_2_121 (by decide) ?_
                exact s_iret kx_2_122 (Or.inr ⟨kq_2, by omega⟩) ⟨_, rfl, rfl, (Or.inl ⟨rfl, by unfold pEt; rw [if_pos ⟨⟨by omega, by omega⟩, ⟨by omega, by omega, by omega⟩, by rw [show M 1 1 = x6_19 by omega]; exact i27⟩], by omega, by omega, by omega, by omega, by omega, fun q a b => i29 q a (by omega)⟩)⟩
              · refine s_aload_n kx_2_72 rfl ?_
                refine r_getR (k := 7) (f := 0) (k2 := t) kx_2_73 kp_2_27 (tk_7 hT) kf_5_0 (by decide) h70 ?_
                refine s_iload kx_2_76 rfl ?_
                refine s_aload_n kx_2_78 rfl ?_
                refine r_getR (k := 1) (f := 0) (k2 := 2) kx_2_79 kp_2_43 (tk_1 hT) kf_8_0 (by decide) (rq_1_0 hI) ?_
                refine s_iload kx_2_82 rfl ?_
                refine r_ald (k := 2) kx_2_84 (tk_2 hT) ⟨by omega, by omega⟩ (rg_2 hI) (fun v33 v33e v33a v33b => ?_)
                have v33r : s (x6_19).toNat = v33 := (congrFun hs (x6_19).toNat).symm.trans (v33e)
                have v33q : s (2 * (x6_19 / 2)).toNat = v33 := (congrArg s (by omega)).trans v33r
                refine s_callV2 (k := t) (s1 := 3) (s2 := 0) (as := [(0, v33), (0, x5_18)]) (rest := []) kx_2_85 kp_2_46 (Or.inl rfl) rfl (tkt_0 hT ht) ki_117 kcl_117 rfl rfl (by decide) (g_117 (d := d) (a := x5_18) (b := v33) hT hI ht h70 hC) (kF (fun v34 v34p => ?_))
                have v34q := v34p.1
                rw [← v33q] at v34q
                refine s_if_eq (t := 104) kx_2_88 (by decide) (fun hc35 => ?_) (fun hc35 => ?_)
                · refine s_iconst (v := 0) kx_2_104 (by decide) ?_
                  exact s_iret kx_2_105 (Or.inr ⟨kq_2, by omega⟩) ⟨_, rfl, rfl, (Or.inr ⟨rfl, by have h9 := pAll_0 (c := cEr D S s person) (x := x6_19 / 2) (by omega) (by unfold cEr; rw [← i26, if_neg (by omega)]; decide) (M 1 1 / 2).toNat (by omega); unfold pEt; exact if_neg (by omega)⟩)⟩
                · refine s_aload_n kx_2_91 rfl ?_
                  refine r_getR (k := 1) (f := 0) (k2 := 2) kx_2_92 kp_2_43 (tk_1 hT) kf_8_0 (by decide) (rq_1_0 hI) ?_
                  refine s_iload kx_2_95 rfl ?_
                  refine s_iconst (v := 1) kx_2_97 (by decide) ?_
                  refine r_add kx_2_98 ⟨by omega, by omega⟩ ?_
                  refine r_ald (k := 2) kx_2_99 (tk_2 hT) ⟨by omega, by omega⟩ (rg_2 hI) (fun v36 v36e v36a v36b => ?_)
                  have v36r : s ((x6_19 + 1)).toNat = v36 := (congrFun hs ((x6_19 + 1)).toNat).symm.trans (v36e)
                  have v36q : s (2 * (x6_19 / 2) + 1).toNat = v36 := (congrArg s (by omega)).trans v36r
                  refine s_iconst (v := 1) kx_2_100 (by decide) ?_
                  refine s_icmp_le (t := 106) kx_2_101 (by decide) (fun hc37 => ?_) (fun hc37 => ?_)
                  · refine s_aload_n kx_2_106 rfl ?_
                    refine r_getR (k := 1) (f := 0) (k2 := 2) kx_2_107 kp_2_43 (tk_1 hT) kf_8_0 (by decide) (rq_1_0 hI) ?_
                    refine s_iload kx_2_110 rfl ?_
                    refine r_aldK (k := 2) kx_2_112 (tk_2 hT) ⟨by omega, by omega⟩ v33e ?_
                    refine s_istore kx_2_113 km_2_5 rfl ?_
                    refine r_iinc kx_2_115 rfl km_2_6 (by decide) ⟨by omega, by omega⟩ rfl ?_
                    refine s_goto (t := 61) kx_2_118 (by decide) ?_
                    exact cP.wk (lS1 rfl (lS1 rfl (lS1 rfl (lS1 rfl lS0)))) (ih31 v33 (x6_19 + 2) (by omega) (by omega) (by omega) (by omega) (by rw [show (x6_19 + 2) / 2 = x6_19 / 2 + 1 by omega, pEa_S (by omega)]; exact v33q.symm) (by rw [show (x6_19 + 2) / 2 = x6_19 / 2 + 1 by omega]; exact pAll_S i27 (by omega) (by unfold cEr; rw [← i26]; exact if_pos (by omega))) (by omega) (fun q a b => if e : 2 * q = x6_19 then (by rw [e, hs, v33r]; omega) else i29 q a (by omega)) (by omega))
                  · refine s_iconst (v := 0) kx_2_104 (by decide) ?_
                    exact s_iret kx_2_105 (Or.inr ⟨kq_2, by omega⟩) ⟨_, rfl, rfl, (Or.inr ⟨rfl, by have h9 := pAll_0 (c := cEr D S s person) (x := x6_19 / 2) (by omega) (by unfold cEr; rw [← i26, if_neg (by omega)]; decide) (M 1 1 / 2).toNat (by omega); unfold pEt; exact if_neg (by omega)⟩)⟩
          exact cP.wk (lS1 rfl (lS1 rfl (lS1 rfl (lS1 rfl lS0)))) (key20 _ v17 0 (by omega) (by omega) (by omega) (by omega) (by show _ = (if (0 : Int) / 2 = 0 then S 0 person.toNat else _); rw [if_pos (by decide)]; omega) rfl (by omega) (fun q a b => absurd b (by omega)) (Nat.lt_succ_self _))
def gC_156_m : List (Nat × Nat) := [(1, 1), (20, 99999), (23, 99999), (37, 99999), (40, 99999), (43, 99999), (51, 2), (52, 99999), (53, 99999), (61, 99999)]
theorem n_156 {xs : Nat → Int} {Ln d : Nat} {T : List cK} {M : cM} (hT : TT T) (hI : Rng M) {t : Nat} (ht : t = 8 ∨ t = 25) (h70 : M 7 0 = ((t : Nat) : Int)) (hN : Fm T M) {person : Int} {D S : cM} (hC : CR D S t M) {s : Nat → Int} (hs : M 2 = s) : cC k_P xs Ln (d + 7) 156 [rf 0, (0, person)] (T, M) (qW T M gC_156_m 0 (fun v M1 => (((pEt D S s (M 1 1) person = 0) ∧ RFn 5 (M 61) (M1 61)) ∨ ((pEt D S s (M 1 1) person = 1) ∧ R0n (M 61) (M1 61))) ∧ M1 1 1 = 0)) := by
  show cP k_P xs Ln (d + 7) 156 0 [(0, rf 0), (1, (0, person))] [] (T, M) _
  have hFm : Fr gC_156_m M M := Fr.refl
  have hD := hC.2.1
  have hDr := hD.rg
  have hSW := hC.2.2.2.2
  refine s_aload_n kx_156_0 rfl ?_
  refine r_getR (k := 0) (f := 5) (k2 := 51) kx_156_1 kp_156_47 (tk_0 hT) kf_11_5 (by decide) (rq_0_5 hI) ?_
  refine s_aload_n kx_156_4 rfl ?_
  refine r_getR (k := 0) (f := 2) (k2 := 7) kx_156_5 kp_156_26 (tk_0 hT) kf_11_2 (by decide) (rq_0_2 hI) ?_
  refine s_aload_n kx_156_8 rfl ?_
  refine r_getR (k := 0) (f := 0) (k2 := 1) kx_156_9 kp_156_10 (tk_0 hT) kf_11_0 (by decide) (rq_0_0 hI) ?_
  refine s_iload_n kx_156_12 rfl ?_
  refine s_callV2 (k := 51) (s1 := 4) (s2 := 0) (as := [(0, person), rf 1, rf 7]) (rest := []) kx_156_13 kp_156_286 (Or.inl rfl) rfl (tk_51 hT) ki_2 kcl_2 rfl rfl (by decide) (g_2 (d := d + 4) (person := person) hT hI ht h70 hC hs) (kF (fun v1 v1p => ?_))
  refine s_istore_n kx_156_16 km_156_2 rfl ?_
  refine s_iload_n kx_156_17 rfl ?_
  refine s_if_eq (t := 40) kx_156_18 (by decide) (fun hc2 => ?_) (fun hc2 => ?_)
  · replace v1p := v1p.resolve_left (by omega)
    refine s_aload_n kx_156_40 rfl ?_
    refine s_iconst (v := 5) kx_156_41 (by decide) ?_
    refine s_callV2 (k := 0) (s1 := 2) (s2 := 0) (as := [(0, 5)]) (rest := []) kx_156_42 kp_156_81 (Or.inl rfl) rfl (tk_0 hT) ki_165 kcl_165 rfl rfl (by decide) (n_165 (d := d + 6) (kind := 5) hT hI (by omega)) (kW (fun v3 M4 hI4 fr4 v3p => ?_))
    have hFm4 := hFm.call fr4 rfl
    refine s_istore_n kx_156_45 km_156_3 rfl ?_
    refine s_aload_n kx_156_46 rfl ?_
    refine r_getR (k := 0) (f := 0) (k2 := 1) kx_156_47 kp_156_10 (tk_0 hT) kf_11_0 (by decide) (rq_0_0 hI4) ?_
    refine s_iconst (v := 0) kx_156_50 (by decide) ?_
    refine r_put (k := 1) (f := 1) kx_156_51 kp_156_78 (tk_1 hT) kf_8_1 rfl (by decide) (by decide) hI4 (ru_1_1 (by omega) (by omega)) (fun M5 hI5 u5 => ?_)
    have hFm5 := hFm4.up u5 rfl
    refine s_iload_n kx_156_54 rfl ?_
    exact s_iret kx_156_55 (Or.inl kq_156) ⟨_, _, rfl, rfl, hI5, hFm5, ⟨(Or.inl ⟨by omega, ((v3p.2.2).of (fun f => rfl) (fun f => (u5.2 61 _ (by omega))))⟩), u5.1⟩⟩
  · replace v1p := v1p.resolve_right (by omega)
    refine s_aload_n kx_156_21 rfl ?_
    refine r_getR (k := 0) (f := 5) (k2 := 51) kx_156_22 kp_156_47 (tk_0 hT) kf_11_5 (by decide) (rq_0_5 hI) ?_
    refine s_aload_n kx_156_25 rfl ?_
    refine r_getR (k := 0) (f := 2) (k2 := 7) kx_156_26 kp_156_26 (tk_0 hT) kf_11_2 (by decide) (rq_0_2 hI) ?_
    refine s_aload_n kx_156_29 rfl ?_
    refine r_getR (k := 0) (f := 0) (k2 := 1) kx_156_30 kp_156_10 (tk_0 hT) kf_11_0 (by decide) (rq_0_0 hI) ?_
    refine s_iload_n kx_156_33 rfl ?_
    refine s_callV2 (k := 51) (s1 := 4) (s2 := 0) (as := [(0, person), rf 1, rf 7]) (rest := []) kx_156_34 kp_156_290 (Or.inl rfl) rfl (tk_51 hT) ki_3 kcl_3 rfl rfl (by decide) (m_3 (d := d) (person := person) hT hI ht h70 hN (by omega) (by omega) (by omega) v1p.2.2.2.2.2.2.2) (kW (fun v6 M7 hI7 fr7 v6p => ?_))
    have hFm7 := hFm.call fr7 rfl
    refine s_goto (t := 45) kx_156_37 (by decide) ?_
    refine s_istore_n kx_156_45 km_156_3 rfl ?_
    refine s_aload_n kx_156_46 rfl ?_
    refine r_getR (k := 0) (f := 0) (k2 := 1) kx_156_47 kp_156_10 (tk_0 hT) kf_11_0 (by decide) (rq_0_0 hI7) ?_
    refine s_iconst (v := 0) kx_156_50 (by decide) ?_
    refine r_put (k := 1) (f := 1) kx_156_51 kp_156_78 (tk_1 hT) kf_8_1 rfl (by decide) (by decide) hI7 (ru_1_1 (by omega) (by omega)) (fun M8 hI8 u8 => ?_)
    have hFm8 := hFm7.up u8 rfl
    refine s_iload_n kx_156_54 rfl ?_
    exact s_iret kx_156_55 (Or.inl kq_156) ⟨_, _, rfl, rfl, hI8, hFm8, ⟨(Or.inr ⟨by omega, (fun f => ((u8.2 61 _ (by omega)).trans (fr7 61 _ rfl)))⟩), u8.1⟩⟩
