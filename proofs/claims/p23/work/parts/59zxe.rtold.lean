theorem g_276 {xs : Nat → Int} {Ln d : Nat} {T : List cK} {M : cM} (hT : TT T) (hI : Rng M) {p n : Int} {D S : cM} (hR : RR D S M) {s : Nat → Int} (hs : M 64 = s) (p0 : 0 ≤ n ∧ n ≤ 1600) : cC k_P xs Ln (d + 1) 276 [rf 63, (0, p), (0, n)] (T, M) (qF T M 0 (fun v => (v = 1 ∧ 0 ≤ p ∧ p < D 0 1 ∧ pEt D S s p n = 1) ∨ (v = 0 ∧ pEt D S s p n = 0))) := by
  show cP k_P xs Ln (d + 1) 276 0 [(0, rf 63), (1, (0, p)), (2, (0, n))] [] (T, M) _
  have hD := hR.2.1
  have hDr := hD.rg
  have hSW := hR.2.2.2.2.1
  refine s_aload_n kx_276_0 rfl ?_
  refine s_iload_n kx_276_1 rfl ?_
  refine s_callV2 (k := 63) (s1 := 2) (s2 := 0) (as := [(0, p)]) (rest := []) kx_276_2 kp_276_514 (Or.inl rfl) rfl (tk_63 hT) ki_221 kcl_221 rfl rfl (by decide) (g_221 (d := d) (p := p) hT hI hR) (kF (fun v1 v1p => ?_))
  refine s_if_eq (t := 24) kx_276_5 (by decide) (fun hc2 => ?_) (fun hc2 => ?_)
  · replace v1p := v1p.resolve_left (by omega)
    refine s_iconst (v := 0) kx_276_24 (by decide) ?_
    exact s_iret kx_276_25 (Or.inr ⟨kq_276, by omega⟩) ⟨_, rfl, rfl, (Or.inr ⟨rfl, pEt_no (by omega)⟩)⟩
  · replace v1p := v1p.resolve_right (by omega)
    refine s_iload_n kx_276_8 rfl ?_
    refine s_if_eq (t := 24) kx_276_9 (by decide) (fun hc3 => ?_) (fun hc3 => ?_)
    · refine s_iconst (v := 0) kx_276_24 (by decide) ?_
      exact s_iret kx_276_25 (Or.inr ⟨kq_276, by omega⟩) ⟨_, rfl, rfl, (Or.inr ⟨rfl, pEt_no (by omega)⟩)⟩
    · refine s_iload_n kx_276_12 rfl ?_
      refine s_iconst (v := 2) kx_276_13 (by decide) ?_
      refine r_irem kx_276_14 (by omega) (by omega) (by omega) (by omega) ?_
      refine s_if_gt (t := 24) kx_276_15 (by decide) (fun hc4 => ?_) (fun hc4 => ?_)
      · refine s_iconst (v := 0) kx_276_24 (by decide) ?_
        exact s_iret kx_276_25 (Or.inr ⟨kq_276, by omega⟩) ⟨_, rfl, rfl, (Or.inr ⟨rfl, pEt_no (by omega)⟩)⟩
      · refine s_iload_n kx_276_18 rfl ?_
        refine s_bipush (v := 24) kx_276_19 (by decide) ?_
        refine s_icmp_le (t := 26) kx_276_21 (by decide) (fun hc5 => ?_) (fun hc5 => ?_)
        · refine s_aload_n kx_276_26 rfl ?_
          refine r_getR (k := 63) (f := 48) (k2 := 92) kx_276_27 kp_276_159 (tk_63 hT) kf_12_48 (by decide) (rq_63_48 hI) ?_
          refine s_iload_n kx_276_30 rfl ?_
          refine r_ald (k := 92) kx_276_31 (tk_92 hT) ⟨by omega, by omega⟩ (rg_92 hI (by omega)) (fun v6 v6e v6a v6b => ?_)
          have v6d := (RR.rm hR (p := p) ⟨by omega, by omega⟩ (by omega)).symm.trans v6e
          have v6w := (hR).2.2.2.2.1.at (p := p) ⟨by omega, by omega⟩
          refine s_istore_n kx_276_32 km_276_3 rfl ?_
          refine s_iconst (v := 0) kx_276_33 (by decide) ?_
          refine s_istore kx_276_34 km_276_4 rfl ?_
          have key9 : ∀ n10 : Nat, ∀ (x3_7 x4_8 : Int), (0 ≤ x3_7) → (x3_7 ≤ 7) → (0 ≤ x4_8) → (x4_8 ≤ 24) → (x4_8 % 2 = 0) → (x4_8 ≤ n) → (x3_7 < D 0 0) → (pAll (cEt D S s p) (x4_8 / 2).toNat = 1) → (x3_7 = pAk S s p (x4_8 / 2).toNat) → (2147483647 - x4_8).toNat < n10 → cP k_P xs Ln (d + 1) 276 36 [(0, rf 63), (2, (0, n)), (3, (0, x3_7)), (4, (0, x4_8))] [] (T, M) (qF T M 0 (fun v => (v = 1 ∧ 0 ≤ p ∧ p < D 0 1 ∧ pEt D S s p n = 1) ∨ (v = 0 ∧ pEt D S s p n = 0))) := by
            intro n10
            induction n10 with
            | zero => intro x3_7 x4_8 i11 i12 i13 i14 i15 i16 i17 i18 i19 hm20; exact absurd hm20 (Nat.not_lt_zero _)
            | succ n10 ih21 =>
              intro x3_7 x4_8 i11 i12 i13 i14 i15 i16 i17 i18 i19 hm20
              refine s_iload kx_276_36 rfl ?_
              refine s_iload_n kx_276_38 rfl ?_
              refine s_icmp_ge (t := 100) kx_276_39 (by decide) (fun hc22 => ?_) (fun hc22 => ?_)
              · refine s_iconst (v := 1) kx_276_100 (by decide) ?_
                exact s_iret kx_276_101 (Or.inr ⟨kq_276, by omega⟩) ⟨_, rfl, rfl, (Or.inl ⟨rfl, by omega, by omega, by unfold pEt; rw [show n = x4_8 by omega]; exact if_pos ⟨by omega, by omega, by omega, by omega, i18⟩⟩)⟩
              · refine s_aload_n kx_276_42 rfl ?_
                refine s_aload_n kx_276_43 rfl ?_
                refine r_getR (k := 63) (f := 0) (k2 := 64) kx_276_44 kp_276_7 (tk_63 hT) kf_12_0 (by decide) (rq_63_0 hI) ?_
                refine s_iload kx_276_47 rfl ?_
                refine r_ald (k := 64) kx_276_49 (tk_64 hT) ⟨by omega, by omega⟩ (rg_64 hI) (fun v23 v23e v23a v23b => ?_)
                have v23r : s (x4_8).toNat = v23 := (congrFun hs (x4_8).toNat).symm.trans (v23e)
                refine s_callV2 (k := 63) (s1 := 2) (s2 := 0) (as := [(0, v23)]) (rest := []) kx_276_50 kp_276_508 (Or.inl rfl) rfl (tk_63 hT) ki_220 kcl_220 rfl rfl (by decide) (g_220 (d := d) (r := v23) hT hI hR) (kF (fun v24 v24p => ?_))
                refine s_if_eq (t := 84) kx_276_53 (by decide) (fun hc25 => ?_) (fun hc25 => ?_)
                · replace v24p := v24p.resolve_left (by omega)
                  refine s_iconst (v := 0) kx_276_84 (by decide) ?_
                  exact s_iret kx_276_85 (Or.inr ⟨kq_276, by omega⟩) ⟨_, rfl, rfl, (Or.inr ⟨rfl, pEt_0 (y := x4_8) (by omega) (by omega) (by omega) (by omega) (cEt_0r (b := 0) (w := 0) (by omega) (by omega) i19 v23r (Or.inl (by omega)))⟩)⟩
                · replace v24p := v24p.resolve_right (by omega)
                  refine s_aload_n kx_276_56 rfl ?_
                  refine r_getR (k := 63) (f := 0) (k2 := 64) kx_276_57 kp_276_7 (tk_63 hT) kf_12_0 (by decide) (rq_63_0 hI) ?_
                  refine s_iload kx_276_60 rfl ?_
                  refine s_iconst (v := 1) kx_276_62 (by decide) ?_
                  refine r_add kx_276_63 ⟨by omega, by omega⟩ ?_
                  refine r_ald (k := 64) kx_276_64 (tk_64 hT) ⟨by omega, by omega⟩ (rg_64 hI) (fun v26 v26e v26a v26b => ?_)
                  have v26r : s ((x4_8 + 1)).toNat = v26 := (congrFun hs ((x4_8 + 1)).toNat).symm.trans (v26e)
                  refine s_iconst (v := 1) kx_276_65 (by decide) ?_
                  refine s_icmp_gt (t := 84) kx_276_66 (by decide) (fun hc27 => ?_) (fun hc27 => ?_)
                  · refine s_iconst (v := 0) kx_276_84 (by decide) ?_
                    exact s_iret kx_276_85 (Or.inr ⟨kq_276, by omega⟩) ⟨_, rfl, rfl, (Or.inr ⟨rfl, pEt_0 (y := x4_8) (by omega) (by omega) (by omega) (by omega) (cEt_0r (b := v26) (w := 0) (by omega) (by omega) i19 v23r (Or.inr (Or.inl ⟨v26r, by omega⟩)))⟩)⟩
                  · refine s_aload_n kx_276_69 rfl ?_
                    refine s_iload_n kx_276_70 rfl ?_
                    refine s_aload_n kx_276_71 rfl ?_
                    refine r_getR (k := 63) (f := 0) (k2 := 64) kx_276_72 kp_276_7 (tk_63 hT) kf_12_0 (by decide) (rq_63_0 hI) ?_
                    refine s_iload kx_276_75 rfl ?_
                    refine r_aldK (k := 64) kx_276_77 (tk_64 hT) ⟨by omega, by omega⟩ v23e ?_
                    refine s_callV2 (k := 63) (s1 := 3) (s2 := 0) (as := [(0, v23), (0, x3_7)]) (rest := []) kx_276_78 kp_276_511 (Or.inl rfl) rfl (tk_63 hT) ki_245 kcl_245 rfl rfl (by decide) (g_245 (d := d) (a := x3_7) (b := v23) hT hI hR (by omega) (by omega) (by omega) (by omega)) (kF (fun v28 v28p => ?_))
                    have v28q : v28 = pWy D x3_7 v23 := v28p.2.2
                    refine s_if_ne (t := 86) kx_276_81 (by decide) (fun hc29 => ?_) (fun hc29 => ?_)
                    · refine s_aload_n kx_276_86 rfl ?_
                      refine r_getR (k := 63) (f := 0) (k2 := 64) kx_276_87 kp_276_7 (tk_63 hT) kf_12_0 (by decide) (rq_63_0 hI) ?_
                      refine s_iload kx_276_90 rfl ?_
                      refine r_aldK (k := 64) kx_276_92 (tk_64 hT) ⟨by omega, by omega⟩ v23e ?_
                      refine s_istore_n kx_276_93 km_276_3 rfl ?_
                      refine r_iinc kx_276_94 rfl km_276_4 (by decide) ⟨by omega, by omega⟩ rfl ?_
                      refine s_goto (t := 36) kx_276_97 (by decide) ?_
                      exact cP.wk (lS1 rfl (lS1 rfl (lS1 rfl (lS1 rfl lS0)))) (ih21 v23 (x4_8 + 2) (by omega) (by omega) (by omega) (by omega) (by omega) (by omega) (by omega) (by rw [show (x4_8 + 2) / 2 = x4_8 / 2 + 1 by omega]; exact pAll_S i18 (by omega) (cEt_1 (w := v28) (by omega) (by omega) i19 (by rw [v23r]; exact v28q) v26r ⟨by omega, by omega⟩)) (by rw [pAk_S (by omega) (by omega)]; exact v23r.symm) (by omega))
                    · refine s_iconst (v := 0) kx_276_84 (by decide) ?_
                      exact s_iret kx_276_85 (Or.inr ⟨kq_276, by omega⟩) ⟨_, rfl, rfl, (Or.inr ⟨rfl, pEt_0 (y := x4_8) (by omega) (by omega) (by omega) (by omega) (cEt_0r (b := v26) (w := v28) (by omega) (by omega) i19 v23r (Or.inr (Or.inr ⟨v28q, by omega⟩)))⟩)⟩
          exact cP.wk (lS1 rfl (lS1 rfl (lS1 rfl (lS1 rfl lS0)))) (key9 _ v6 0 (by omega) (by omega) (by omega) (by omega) (by omega) (by omega) (by omega) rfl (v6d.symm) (Nat.lt_succ_self _))
        · refine s_iconst (v := 0) kx_276_24 (by decide) ?_
          exact s_iret kx_276_25 (Or.inr ⟨kq_276, by omega⟩) ⟨_, rfl, rfl, (Or.inr ⟨rfl, pEt_no (by omega)⟩)⟩
