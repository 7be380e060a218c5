theorem g_2 {xs : Nat → Int} {Ln d : Nat} {T : List cK} {M : cM} (hT : TT T) (hI : Rng M) {t : Nat} (ht : t = 8 ∨ t = 25) (h70 : M 7 0 = ((t : Nat) : Int)) {person : Int} {D S : cM} (hC : CR D S t M) {s : Nat → Int} (hs : M 2 = s) : cC k_P xs Ln (d + 2) 2 [rf 51, rf 7, rf 1, (0, person)] (T, M) (qF T M 0 (fun v => (v = 1 ∧ 0 ≤ person ∧ person < D 0 1 ∧ pEt D S s person (M 1 1) = 1) ∨ (v = 0 ∧ pEt D S s person (M 1 1) = 0))) := by
  show cP k_P xs Ln (d + 2) 2 0 [(0, rf 51), (1, rf 7), (2, rf 1), (3, (0, person))] [] (T, M) _
  have hD := hC.2.1
  have hDr := hD.rg
  have hSW := hC.2.2.2.2.1
  refine s_aload_n kx_2_0 rfl ?_
  refine r_getI (k := 1) (f := 1) kx_2_1 kp_2_22 (tk_1 hT) kf_8_1 (fun _ => rfl) (rg_1_1 hI) (fun v1 v1e v1a v1b => ?_)
  refine s_iconst (v := 2) kx_2_4 (by decide) ?_
  refine s_icmp_lt (t := 30) kx_2_5 (by decide) (fun hc2 => ?_) (fun hc2 => ?_)
  · refine s_iconst (v := 0) kx_2_30 (by decide) ?_
    refine s_istore kx_2_31 km_2_4 rfl ?_
    refine s_aload_n kx_2_33 rfl ?_
    refine r_getR (k := 7) (f := 0) (k2 := t) kx_2_34 kp_2_27 (tk_7 hT) kf_5_0 (by decide) h70 ?_
    refine s_iload_n kx_2_37 rfl ?_
    refine s_callV2 (k := t) (s1 := 2) (s2 := 0) (as := [(0, person)]) (rest := []) kx_2_38 kp_2_33 (Or.inl rfl) rfl (tkt_0 hT ht) ki_107 kcl_107 rfl rfl (by decide) (g_107 (d := d + 1) (person := person) hT hI ht h70 hC) (kF (fun v3 v3p => ?_))
    refine s_if_eq (t := 49) kx_2_41 (by decide) (fun hc4 => ?_) (fun hc4 => ?_)
    · replace v3p := v3p.resolve_left (by omega)
      refine s_iconst (v := 0) kx_2_49 (by decide) ?_
      exact s_iret kx_2_50 (Or.inr ⟨kq_2, by omega⟩) ⟨_, rfl, rfl, (Or.inr ⟨rfl, pEt_no (by omega)⟩)⟩
    · replace v3p := v3p.resolve_right (by omega)
      refine s_iload kx_2_44 rfl ?_
      refine s_if_ne (t := 51) kx_2_46 (by decide) (fun hc5 => absurd hc5 (by decide)) (fun hc5 => ?_)
      refine s_iconst (v := 0) kx_2_49 (by decide) ?_
      exact s_iret kx_2_50 (Or.inr ⟨kq_2, by omega⟩) ⟨_, rfl, rfl, (Or.inr ⟨rfl, pEt_no (by omega)⟩)⟩
  · refine s_aload_n kx_2_8 rfl ?_
    refine r_getK (k := 1) (f := 1) kx_2_9 kp_2_22 (tk_1 hT) kf_8_1 (fun _ => rfl) v1e ?_
    refine s_bipush (v := 24) kx_2_12 (by decide) ?_
    refine s_icmp_gt (t := 30) kx_2_14 (by decide) (fun hc6 => ?_) (fun hc6 => ?_)
    · refine s_iconst (v := 0) kx_2_30 (by decide) ?_
      refine s_istore kx_2_31 km_2_4 rfl ?_
      refine s_aload_n kx_2_33 rfl ?_
      refine r_getR (k := 7) (f := 0) (k2 := t) kx_2_34 kp_2_27 (tk_7 hT) kf_5_0 (by decide) h70 ?_
      refine s_iload_n kx_2_37 rfl ?_
      refine s_callV2 (k := t) (s1 := 2) (s2 := 0) (as := [(0, person)]) (rest := []) kx_2_38 kp_2_33 (Or.inl rfl) rfl (tkt_0 hT ht) ki_107 kcl_107 rfl rfl (by decide) (g_107 (d := d + 1) (person := person) hT hI ht h70 hC) (kF (fun v7 v7p => ?_))
      refine s_if_eq (t := 49) kx_2_41 (by decide) (fun hc8 => ?_) (fun hc8 => ?_)
      · replace v7p := v7p.resolve_left (by omega)
        refine s_iconst (v := 0) kx_2_49 (by decide) ?_
        exact s_iret kx_2_50 (Or.inr ⟨kq_2, by omega⟩) ⟨_, rfl, rfl, (Or.inr ⟨rfl, pEt_no (by omega)⟩)⟩
      · replace v7p := v7p.resolve_right (by omega)
        refine s_iload kx_2_44 rfl ?_
        refine s_if_ne (t := 51) kx_2_46 (by decide) (fun hc9 => absurd hc9 (by decide)) (fun hc9 => ?_)
        refine s_iconst (v := 0) kx_2_49 (by decide) ?_
        exact s_iret kx_2_50 (Or.inr ⟨kq_2, by omega⟩) ⟨_, rfl, rfl, (Or.inr ⟨rfl, pEt_no (by omega)⟩)⟩
    · refine s_aload_n kx_2_17 rfl ?_
      refine r_getK (k := 1) (f := 1) kx_2_18 kp_2_22 (tk_1 hT) kf_8_1 (fun _ => rfl) v1e ?_
      refine s_iconst (v := 2) kx_2_21 (by decide) ?_
      refine r_irem kx_2_22 (by omega) (by omega) (by omega) (by omega) ?_
      refine s_if_ne (t := 30) kx_2_23 (by decide) (fun hc10 => ?_) (fun hc10 => ?_)
      · refine s_iconst (v := 0) kx_2_30 (by decide) ?_
        refine s_istore kx_2_31 km_2_4 rfl ?_
        refine s_aload_n kx_2_33 rfl ?_
        refine r_getR (k := 7) (f := 0) (k2 := t) kx_2_34 kp_2_27 (tk_7 hT) kf_5_0 (by decide) h70 ?_
        refine s_iload_n kx_2_37 rfl ?_
        refine s_callV2 (k := t) (s1 := 2) (s2 := 0) (as := [(0, person)]) (rest := []) kx_2_38 kp_2_33 (Or.inl rfl) rfl (tkt_0 hT ht) ki_107 kcl_107 rfl rfl (by decide) (g_107 (d := d + 1) (person := person) hT hI ht h70 hC) (kF (fun v11 v11p => ?_))
        refine s_if_eq (t := 49) kx_2_41 (by decide) (fun hc12 => ?_) (fun hc12 => ?_)
        · replace v11p := v11p.resolve_left (by omega)
          refine s_iconst (v := 0) kx_2_49 (by decide) ?_
          exact s_iret kx_2_50 (Or.inr ⟨kq_2, by omega⟩) ⟨_, rfl, rfl, (Or.inr ⟨rfl, pEt_no (by omega)⟩)⟩
        · replace v11p := v11p.resolve_right (by omega)
          refine s_iload kx_2_44 rfl ?_
          refine s_if_ne (t := 51) kx_2_46 (by decide) (fun hc13 => absurd hc13 (by decide)) (fun hc13 => ?_)
          refine s_iconst (v := 0) kx_2_49 (by decide) ?_
          exact s_iret kx_2_50 (Or.inr ⟨kq_2, by omega⟩) ⟨_, rfl, rfl, (Or.inr ⟨rfl, pEt_no (by omega)⟩)⟩
      · refine s_iconst (v := 1) kx_2_26 (by decide) ?_
        refine s_goto (t := 31) kx_2_27 (by decide) ?_
        refine s_istore kx_2_31 km_2_4 rfl ?_
        refine s_aload_n kx_2_33 rfl ?_
        refine r_getR (k := 7) (f := 0) (k2 := t) kx_2_34 kp_2_27 (tk_7 hT) kf_5_0 (by decide) h70 ?_
        refine s_iload_n kx_2_37 rfl ?_
        refine s_callV2 (k := t) (s1 := 2) (s2 := 0) (as := [(0, person)]) (rest := []) kx_2_38 kp_2_33 (Or.inl rfl) rfl (tkt_0 hT ht) ki_107 kcl_107 rfl rfl (by decide) (g_107 (d := d + 1) (person := person) hT hI ht h70 hC) (kF (fun v14 v14p => ?_))
        refine s_if_eq (t := 49) kx_2_41 (by decide) (fun hc15 => ?_) (fun hc15 => ?_)
        · replace v14p := v14p.resolve_left (by omega)
          refine s_iconst (v := 0) kx_2_49 (by decide) ?_
          exact s_iret kx_2_50 (Or.inr ⟨kq_2, by omega⟩) ⟨_, rfl, rfl, (Or.inr ⟨rfl, pEt_no (by omega)⟩)⟩
        · replace v14p := v14p.resolve_right (by omega)
          refine s_iload kx_2_44 rfl ?_
          refine s_if_ne (t := 51) kx_2_46 (by decide) (fun hc16 => ?_) (fun hc16 => absurd hc16 (by decide))
          refine s_aload_n kx_2_51 rfl ?_
          refine s_iload_n kx_2_52 rfl ?_
          refine s_callV2 (k := 7) (s1 := 2) (s2 := 0) (as := [(0, person)]) (rest := []) kx_2_53 kp_2_39 (Or.inl rfl) rfl (tk_7 hT) ki_43 kcl_43 rfl rfl (by decide) (g_43 (d := d + 1) (person := person) hT hI ht h70 hC (by omega) (by omega)) (kF (fun v17 v17p => ?_))
          refine s_istore kx_2_56 km_2_5 rfl ?_
          refine s_iconst (v := 0) kx_2_58 (by decide) ?_
          refine s_istore kx_2_59 km_2_6 rfl ?_
          have key20 : ∀ n21 : Nat, ∀ (x5_18 x6_19 : Int), (0 ≤ x5_18) → (x5_18 ≤ 255) → (0 ≤ x6_19) → (x6_19 ≤ 24) → (x6_19 % 2 = 0) → (x6_19 ≤ M 1 1) → (pAll (cEt D S s person) (x6_19 / 2).toNat = 1) → (x5_18 = pAk S s person (x6_19 / 2).toNat) → (2147483647 - x6_19).toNat < n21 → cP k_P xs Ln (d + 2) 2 61 [(1, rf 7), (2, rf 1), (5, (0, x5_18)), (6, (0, x6_19))] [] (T, M) (qF T M 0 (fun v => (v = 1 ∧ 0 ≤ person ∧ person < D 0 1 ∧ pEt D S s person (M 1 1) = 1) ∨ (v = 0 ∧ pEt D S s person (M 1 1) = 0))) := by
            intro n21
            induction n21 with
            | zero => intro x5_18 x6_19 i22 i23 i24 i25 i26 i27 i28 i29 hm30; exact absurd hm30 (Nat.not_lt_zero _)
            | succ n21 ih31 =>
              intro x5_18 x6_19 i22 i23 i24 i25 i26 i27 i28 i29 hm30
              refine s_iload kx_2_61 rfl ?_
              refine s_iconst (v := 1) kx_2_63 (by decide) ?_
              refine r_add kx_2_64 ⟨by omega, by omega⟩ ?_
              refine s_aload_n kx_2_65 rfl ?_
              refine r_getK (k := 1) (f := 1) kx_2_66 kp_2_22 (tk_1 hT) kf_8_1 (fun _ => rfl) v1e ?_
              refine s_icmp_ge (t := 121) kx_2_69 (by decide) (fun hc32 => ?_) (fun hc32 => ?_)
              · refine s_iconst (v := 1) kx_2_121 (by decide) ?_
                exact s_iret kx_2_122 (Or.inr ⟨kq_2, by omega⟩) ⟨_, rfl, rfl, (Or.inl ⟨rfl, by omega, by omega, by unfold pEt; rw [show M 1 1 = x6_19 by omega]; exact if_pos ⟨by omega, by omega, by omega, by omega, i28⟩⟩)⟩
              · refine s_aload_n kx_2_72 rfl ?_
                refine r_getR (k := 7) (f := 0) (k2 := t) kx_2_73 kp_2_27 (tk_7 hT) kf_5_0 (by decide) h70 ?_
                refine s_iload kx_2_76 rfl ?_
                refine s_aload_n kx_2_78 rfl ?_
                refine r_getR (k := 1) (f := 0) (k2 := 2) kx_2_79 kp_2_43 (tk_1 hT) kf_8_0 (by decide) (rq_1_0 hI) ?_
                refine s_iload kx_2_82 rfl ?_
                refine r_ald (k := 2) kx_2_84 (tk_2 hT) ⟨by omega, by omega⟩ (rg_2 hI) (fun v33 v33e v33a v33b => ?_)
                have v33r : s (x6_19).toNat = v33 := (congrFun hs (x6_19).toNat).symm.trans (v33e)
                refine s_callV2 (k := t) (s1 := 3) (s2 := 0) (as := [(0, v33), (0, x5_18)]) (rest := []) kx_2_85 kp_2_46 (Or.inl rfl) rfl (tkt_0 hT ht) ki_117 kcl_117 rfl rfl (by decide) (g_117 (d := d) (a := x5_18) (b := v33) hT hI ht h70 hC) (kF (fun v34 v34p => ?_))
                have v34q : v34 = pWy D x5_18 (s (x6_19).toNat) := by rw [v33r]; exact v34p.1
                refine s_if_eq (t := 104) kx_2_88 (by decide) (fun hc35 => ?_) (fun hc35 => ?_)
                · refine s_iconst (v := 0) kx_2_104 (by decide) ?_
                  exact s_iret kx_2_105 (Or.inr ⟨kq_2, by omega⟩) ⟨_, rfl, rfl, (Or.inr ⟨rfl, pEt_0 (y := x6_19) (by omega) (by omega) (by omega) (by omega) (cEt_0 (b := 0) (by omega) (by omega) i29 v34q (Or.inl (by omega)))⟩)⟩
                · refine s_aload_n kx_2_91 rfl ?_
                  refine r_getR (k := 1) (f := 0) (k2 := 2) kx_2_92 kp_2_43 (tk_1 hT) kf_8_0 (by decide) (rq_1_0 hI) ?_
                  refine s_iload kx_2_95 rfl ?_
                  refine s_iconst (v := 1) kx_2_97 (by decide) ?_
                  refine r_add kx_2_98 ⟨by omega, by omega⟩ ?_
                  refine r_ald (k := 2) kx_2_99 (tk_2 hT) ⟨by omega, by omega⟩ (rg_2 hI) (fun v36 v36e v36a v36b => ?_)
                  have v36r : s ((x6_19 + 1)).toNat = v36 := (congrFun hs ((x6_19 + 1)).toNat).symm.trans (v36e)
                  refine s_iconst (v := 1) kx_2_100 (by decide) ?_
                  refine s_icmp_le (t := 106) kx_2_101 (by decide) (fun hc37 => ?_) (fun hc37 => ?_)
                  · refine s_aload_n kx_2_106 rfl ?_
                    refine r_getR (k := 1) (f := 0) (k2 := 2) kx_2_107 kp_2_43 (tk_1 hT) kf_8_0 (by decide) (rq_1_0 hI) ?_
                    refine s_iload kx_2_110 rfl ?_
                    refine r_aldK (k := 2) kx_2_112 (tk_2 hT) ⟨by omega, by omega⟩ v33e ?_
                    refine s_istore kx_2_113 km_2_5 rfl ?_
                    refine r_iinc kx_2_115 rfl km_2_6 (by decide) ⟨by omega, by omega⟩ rfl ?_
                    refine s_goto (t := 61) kx_2_118 (by decide) ?_
                    exact cP.wk (lS1 rfl (lS1 rfl (lS1 rfl (lS1 rfl lS0)))) (ih31 v33 (x6_19 + 2) (by omega) (by omega) (by omega) (by omega) (by omega) (by omega) (by rw [show (x6_19 + 2) / 2 = x6_19 / 2 + 1 by omega]; exact pAll_S i28 (by omega) (cEt_1 (by omega) (by omega) i29 v34q v36r ⟨by omega, by omega⟩)) (by rw [pAk_S (by omega) (by omega)]; exact v33r.symm) (by omega))
                  · refine s_iconst (v := 0) kx_2_104 (by decide) ?_
                    exact s_iret kx_2_105 (Or.inr ⟨kq_2, by omega⟩) ⟨_, rfl, rfl, (Or.inr ⟨rfl, pEt_0 (y := x6_19) (by omega) (by omega) (by omega) (by omega) (cEt_0 (b := v36) (by omega) (by omega) i29 v34q (Or.inr ⟨v36r, by omega⟩))⟩)⟩
          exact cP.wk (lS1 rfl (lS1 rfl (lS1 rfl (lS1 rfl lS0)))) (key20 _ v17 0 (by omega) (by omega) (by omega) (by omega) (by omega) (by omega) rfl (v17p.2.2.1) (Nat.lt_succ_self _))
