theorem g_76 {xs : Nat → Int} {Ln d : Nat} {T : List cK} {M : cM} (hT : TT T) (hI : Rng M) {first : Int} {s : Nat → Int} (hs : M 2 = s) (p0 : 0 ≤ first ∧ first ≤ 1597) : cC k_P xs Ln (d + 0) 76 [rf 1, (0, first)] (T, M) (qF T M 0 (fun v => v = p3b s first)) := by
  show cP k_P xs Ln (d + 0) 76 0 [(0, rf 1), (1, (0, first))] [] (T, M) _
  refine s_aload_n kx_76_0 rfl ?_
  refine r_getR (k := 1) (f := 0) (k2 := 2) kx_76_1 kp_76_164 (tk_1 hT) kf_8_0 (by decide) (rq_1_0 hI) ?_
  refine s_iload_n kx_76_4 rfl ?_
  refine r_ald (k := 2) kx_76_5 (tk_2 hT) ⟨by omega, by omega⟩ (rg_2 hI) (fun v1 v1e v1a v1b => ?_)
  have v1r : s (first).toNat = v1 := (congrFun hs (first).toNat).symm.trans (v1e)
  refine s_bipush (v := 16) kx_76_6 (by decide) ?_
  refine s_ishl (z := (tbL v1 16)) kx_76_8 rfl ?_
  refine s_aload_n kx_76_9 rfl ?_
  refine r_getR (k := 1) (f := 0) (k2 := 2) kx_76_10 kp_76_164 (tk_1 hT) kf_8_0 (by decide) (rq_1_0 hI) ?_
  refine s_iload_n kx_76_13 rfl ?_
  refine s_iconst (v := 1) kx_76_14 (by decide) ?_
  refine r_add kx_76_15 ⟨by omega, by omega⟩ ?_
  refine r_ald (k := 2) kx_76_16 (tk_2 hT) ⟨by omega, by omega⟩ (rg_2 hI) (fun v3 v3e v3a v3b => ?_)
  have v3r : s ((first + 1)).toNat = v3 := (congrFun hs ((first + 1)).toNat).symm.trans (v3e)
  refine s_bipush (v := 8) kx_76_17 (by decide) ?_
  refine s_ishl (z := (tbL v3 8)) kx_76_19 rfl ?_
  refine s_ior (z := (tbO (tbL v1 16) (tbL v3 8))) kx_76_20 rfl ?_
  refine s_aload_n kx_76_21 rfl ?_
  refine r_getR (k := 1) (f := 0) (k2 := 2) kx_76_22 kp_76_164 (tk_1 hT) kf_8_0 (by decide) (rq_1_0 hI) ?_
  refine s_iload_n kx_76_25 rfl ?_
  refine s_iconst (v := 2) kx_76_26 (by decide) ?_
  refine r_add kx_76_27 ⟨by omega, by omega⟩ ?_
  refine r_ald (k := 2) kx_76_28 (tk_2 hT) ⟨by omega, by omega⟩ (rg_2 hI) (fun v6 v6e v6a v6b => ?_)
  have v6r : s ((first + 2)).toNat = v6 := (congrFun hs ((first + 2)).toNat).symm.trans (v6e)
  refine s_ior (z := (tbO (tbO (tbL v1 16) (tbL v3 8)) v6)) kx_76_29 rfl ?_
  exact s_iret kx_76_30 (Or.inl kq_76) ⟨_, rfl, rfl, (by unfold p3b; rw [v1r, v3r, v6r])⟩
theorem g_75 {xs : Nat → Int} {Ln d : Nat} {T : List cK} {M : cM} (hT : TT T) (hI : Rng M) {t : Nat} (ht : t = 8 ∨ t = 25) (h70 : M 7 0 = ((t : Nat) : Int)) {D S : cM} (hC : CR D S t M) {s : Nat → Int} (hs : M 2 = s) : cC k_P xs Ln (d + 0) 75 [rf 7, rf 1] (T, M) (qF T M 0 (fun v => (v = 1 ∧ pAll (cFl D s) (D 0 0).toNat = 1) ∨ (v = 0 ∧ pAll (cFl D s) (D 0 0).toNat = 0))) := by
  show cP k_P xs Ln (d + 0) 75 0 [(0, rf 7), (1, rf 1)] [] (T, M) _
  have hD := hC.2.1
  have hDr := hD.rg
  have hSW := hC.2.2.2.2.1
  refine s_iconst (v := 0) kx_75_0 (by decide) ?_
  refine s_istore_n kx_75_1 km_75_2 rfl ?_
  have key2 : ∀ n3 : Nat, ∀ (x2_1 : Int), (0 ≤ x2_1) → (x2_1 ≤ 8) → (x2_1 ≤ D 0 0) → (pAll (cFl D s) (x2_1).toNat = 1) → (2147483647 - x2_1).toNat < n3 → cP k_P xs Ln (d + 0) 75 2 [(0, rf 7), (1, rf 1), (2, (0, x2_1))] [] (T, M) (qF T M 0 (fun v => (v = 1 ∧ pAll (cFl D s) (D 0 0).toNat = 1) ∨ (v = 0 ∧ pAll (cFl D s) (D 0 0).toNat = 0))) := by
    intro n3
    induction n3 with
    | zero => intro x2_1 i4 i5 i6 i7 hm8; exact absurd hm8 (Nat.not_lt_zero _)
    | succ n3 ih9 =>
      intro x2_1 i4 i5 i6 i7 hm8
      refine s_iload_n kx_75_2 rfl ?_
      refine s_aload_n kx_75_3 rfl ?_
      refine r_getR (k := 7) (f := 0) (k2 := t) kx_75_4 kp_75_14 (tk_7 hT) kf_5_0 (by decide) h70 ?_
      refine r_getI (k := t) (f := 0) kx_75_7 kp_75_175 (tkt_0 hT ht) kf_9_0 (fun _ => rfl) (rgt_0_0 hI ht) (fun v10 v10e v10a v10b => ?_)
      have v10d : D 0 0 = v10 := ((hC).1 0 0 (by decide)).symm.trans v10e
      refine s_icmp_ge (t := 90) kx_75_10 (by decide) (fun hc11 => ?_) (fun hc11 => ?_)
      · refine s_iconst (v := 1) kx_75_90 (by decide) ?_
        exact s_iret kx_75_91 (Or.inr ⟨kq_75, by omega⟩) ⟨_, rfl, rfl, (Or.inl ⟨rfl, by rw [show D 0 0 = x2_1 by omega]; exact i7⟩)⟩
      · refine s_iconst (v := 0) kx_75_13 (by decide) ?_
        refine s_istore_n kx_75_14 km_75_3 rfl ?_
        refine s_iconst (v := 0) kx_75_15 (by decide) ?_
        refine s_istore kx_75_16 km_75_4 rfl ?_
        have key14 : ∀ n15 : Nat, ∀ (x3_12 x4_13 : Int), (0 ≤ x3_12) → (x3_12 ≤ 72) → (0 ≤ x4_13) → (x4_13 ≤ 8) → (x3_12 ≤ 9 * x4_13) → (x4_13 ≤ D 0 1) → (x3_12 = pFw D s x2_1 (x4_13).toNat) → (2147483647 - x4_13).toNat < n15 → cP k_P xs Ln (d + 0) 75 18 [(0, rf 7), (1, rf 1), (2, (0, x2_1)), (3, (0, x3_12)), (4, (0, x4_13))] [] (T, M) (qF T M 0 (fun v => (v = 1 ∧ pAll (cFl D s) (D 0 0).toNat = 1) ∨ (v = 0 ∧ pAll (cFl D s) (D 0 0).toNat = 0))) := by
          intro n15
          induction n15 with
          | zero => intro x3_12 x4_13 i16 i17 i18 i19 i20 i21 i22 hm23; exact absurd hm23 (Nat.not_lt_zero _)
          | succ n15 ih24 =>
            intro x3_12 x4_13 i16 i17 i18 i19 i20 i21 i22 hm23
            refine s_iload kx_75_18 rfl ?_
            refine s_aload_n kx_75_20 rfl ?_
            refine r_getR (k := 7) (f := 0) (k2 := t) kx_75_21 kp_75_14 (tk_7 hT) kf_5_0 (by decide) h70 ?_
            refine r_getI (k := t) (f := 1) kx_75_24 kp_75_36 (tkt_0 hT ht) kf_9_1 (fun _ => rfl) (rgt_0_1 hI ht) (fun v25 v25e v25a v25b => ?_)
            have v25d : D 0 1 = v25 := ((hC).1 0 1 (by decide)).symm.trans v25e
            refine s_icmp_ge (t := 69) kx_75_27 (by decide) (fun hc26 => ?_) (fun hc26 => ?_)
            · have hpw : x3_12 = pFw D s x2_1 (D 0 1).toNat := by rw [show D 0 1 = x4_13 by omega]; exact i22
              have hcl : cFl D s x2_1 = if pFw D s x2_1 (D 0 1).toNat ≤ D 3 (x2_1).toNat then 1 else 0 := rfl
              refine s_iload_n kx_75_69 rfl ?_
              refine s_aload_n kx_75_70 rfl ?_
              refine r_getR (k := 7) (f := 0) (k2 := t) kx_75_71 kp_75_14 (tk_7 hT) kf_5_0 (by decide) h70 ?_
              refine r_getR (k := t) (f := 6) (k2 := (t + 3)) kx_75_74 kp_75_87 (tkt_0 hT ht) kf_9_6 (by decide) (rqt_6 hI ht) ?_
              refine s_iload_n kx_75_77 rfl ?_
              refine r_aldU (k := (t + 3)) kx_75_78 (tkt_3 hT ht) ⟨by omega, by omega⟩ (fun v27 v27e => ?_)
              have v27d : D 3 (x2_1).toNat = v27 := ((hC).1 3 _ (by decide)).symm.trans v27e
              refine s_icmp_le (t := 84) kx_75_79 (by decide) (fun hc28 => ?_) (fun hc28 => ?_)
              · refine r_iinc kx_75_84 rfl km_75_2 (by decide) ⟨by omega, by omega⟩ rfl ?_
                refine s_goto (t := 2) kx_75_87 (by decide) ?_
                exact cP.wk (lS1 rfl (lS1 rfl (lS1 rfl lS0))) (ih9 (x2_1 + 1) (by omega) (by omega) (by omega) (pAll_S i7 (by omega) (by rw [hcl, if_pos (by omega)])) (by omega))
              · refine s_iconst (v := 0) kx_75_82 (by decide) ?_
                exact s_iret kx_75_83 (Or.inr ⟨kq_75, by omega⟩) ⟨_, rfl, rfl, (Or.inr ⟨rfl, pAll_0 (x := x2_1) (by omega) (by rw [hcl, if_neg (by omega)]; decide) _ (by omega)⟩)⟩
            · refine s_iload_n kx_75_30 rfl ?_
              refine s_aload_n kx_75_31 rfl ?_
              refine r_getR (k := 1) (f := 0) (k2 := 2) kx_75_32 kp_75_164 (tk_1 hT) kf_8_0 (by decide) (rq_1_0 hI) ?_
              refine s_iload kx_75_35 rfl ?_
              refine s_bipush (v := 9) kx_75_37 (by decide) ?_
              refine r_mul kx_75_39 ⟨by omega, by omega⟩ ?_
              refine s_iconst (v := 1) kx_75_40 (by decide) ?_
              refine r_add kx_75_41 ⟨by omega, by omega⟩ ?_
              refine r_ald (k := 2) kx_75_42 (tk_2 hT) ⟨by omega, by omega⟩ (rg_2 hI) (fun v29 v29e v29a v29b => ?_)
              have v29r : s (((x4_13 * 9) + 1)).toNat = v29 := (congrFun hs (((x4_13 * 9) + 1)).toNat).symm.trans (v29e)
              have v29s : s (9 * x4_13 + 1).toNat = v29 := (congrArg s (by omega)).trans v29r
              refine s_iload_n kx_75_43 rfl ?_
              refine s_icmp_ne (t := 60) kx_75_44 (by decide) (fun hc30 => ?_) (fun hc30 => ?_)
              · refine s_iconst (v := 0) kx_75_60 (by decide) ?_
                refine r_add kx_75_61 ⟨by omega, by omega⟩ ?_
                refine s_istore_n kx_75_62 km_75_3 rfl ?_
                refine r_iinc kx_75_63 rfl km_75_4 (by decide) ⟨by omega, by omega⟩ rfl ?_
                refine s_goto (t := 18) kx_75_66 (by decide) ?_
                exact cP.wk (lS1 rfl (lS1 rfl (lS1 rfl (lS1 rfl (lS1 rfl lS0))))) (ih24 (x3_12 + 0) (x4_13 + 1) (by omega) (by omega) (by omega) (by omega) (by omega) (by omega) (pFw_S i22 (by omega) (Or.inr ⟨by omega, rfl⟩)) (by omega))
              · refine s_aload_n kx_75_47 rfl ?_
                refine r_getR (k := 7) (f := 0) (k2 := t) kx_75_48 kp_75_14 (tk_7 hT) kf_5_0 (by decide) h70 ?_
                refine r_getR (k := t) (f := 11) (k2 := (t + 8)) kx_75_51 kp_75_69 (tkt_0 hT ht) kf_9_11 (by decide) (rqt_11 hI ht) ?_
                refine s_iload kx_75_54 rfl ?_
                refine r_aldU (k := (t + 8)) kx_75_56 (tkt_8 hT ht) ⟨by omega, by omega⟩ (fun v31 v31e => ?_)
                have v31d : D 8 (x4_13).toNat = v31 := ((hC).1 8 _ (by decide)).symm.trans v31e
                have v31w := hD.1.wd (p := x4_13) ⟨by omega, by omega⟩
                rw [v31d] at v31w
                refine s_goto (t := 61) kx_75_57 (by decide) ?_
                refine r_add kx_75_61 ⟨by omega, by omega⟩ ?_
                refine s_istore_n kx_75_62 km_75_3 rfl ?_
                refine r_iinc kx_75_63 rfl km_75_4 (by decide) ⟨by omega, by omega⟩ rfl ?_
                refine s_goto (t := 18) kx_75_66 (by decide) ?_
                exact cP.wk (lS1 rfl (lS1 rfl (lS1 rfl (lS1 rfl (lS1 rfl lS0))))) (ih24 (x3_12 + v31) (x4_13 + 1) (by omega) (by omega) (by omega) (by omega) (by omega) (by omega) (pFw_S i22 (by omega) (Or.inl ⟨by omega, v31d.symm⟩)) (by omega))
        exact cP.wk (lS1 rfl (lS1 rfl (lS1 rfl (lS1 rfl (lS1 rfl lS0))))) (key14 _ 0 0 (by omega) (by omega) (by omega) (by omega) (by omega) (by omega) rfl (Nat.lt_succ_self _))
  exact cP.wk (lS1 rfl (lS1 rfl (lS1 rfl lS0))) (key2 _ 0 (by omega) (by omega) (by omega) rfl (Nat.lt_succ_self _))
theorem g_74 {xs : Nat → Int} {Ln d : Nat} {T : List cK} {M : cM} (hT : TT T) (hI : Rng M) {t : Nat} (ht : t = 8 ∨ t = 25) (h70 : M 7 0 = ((t : Nat) : Int)) {D S : cM} (hC : CR D S t M) {s : Nat → Int} (hs : M 2 = s) : cC k_P xs Ln (d + 1) 74 [rf 7, rf 1] (T, M) (qF T M 0 (fun v => (v = 1 ∧ pIm D s (M 1 1) = 1) ∨ (v = 0 ∧ pIm D s (M 1 1) = 0))) := by
  show cP k_P xs Ln (d + 1) 74 0 [(0, rf 7), (1, rf 1)] [] (T, M) _
  have hD := hC.2.1
  have hDr := hD.rg
  have hSW := hC.2.2.2.2.1
  refine s_aload_n kx_74_0 rfl ?_
  refine r_getR (k := 7) (f := 0) (k2 := t) kx_74_1 kp_74_14 (tk_7 hT) kf_5_0 (by decide) h70 ?_
  refine r_getI (k := t) (f := 1) kx_74_4 kp_74_36 (tkt_0 hT ht) kf_9_1 (fun _ => rfl) (rgt_0_1 hI ht) (fun v1 v1e v1a v1b => ?_)
  have v1d : D 0 1 = v1 := ((hC).1 0 1 (by decide)).symm.trans v1e
  refine s_bipush (v := 9) kx_74_7 (by decide) ?_
  refine r_mul kx_74_9 ⟨by omega, by omega⟩ ?_
  refine s_istore_n kx_74_10 km_74_2 rfl ?_
  refine s_aload_n kx_74_11 rfl ?_
  refine r_getI (k := 1) (f := 1) kx_74_12 kp_74_159 (tk_1 hT) kf_8_1 (fun _ => rfl) (rg_1_1 hI) (fun v2 v2e v2a v2b => ?_)
  refine s_iload_n kx_74_15 rfl ?_
  refine s_iconst (v := 1) kx_74_16 (by decide) ?_
  refine r_add kx_74_17 ⟨by omega, by omega⟩ ?_
  refine s_icmp_eq (t := 23) kx_74_18 (by decide) (fun hc3 => ?_) (fun hc3 => ?_)
  · refine s_bipush (v := 113) kx_74_23 (by decide) ?_
    refine s_istore_n kx_74_25 km_74_3 rfl ?_
    refine s_iconst (v := 0) kx_74_26 (by decide) ?_
    refine s_istore kx_74_27 km_74_4 rfl ?_
    have key6 : ∀ n7 : Nat, ∀ (x3_4 x4_5 : Int), (0 ≤ x3_4) → (x3_4 ≤ 250) → (0 ≤ x4_5) → (x4_5 ≤ 72) → (x4_5 ≤ (v1 * 9)) → (x3_4 = pCk s (x4_5).toNat) → (2147483647 - x4_5).toNat < n7 → cP k_P xs Ln (d + 1) 74 29 [(0, rf 7), (1, rf 1), (2, (0, (v1 * 9))), (3, (0, x3_4)), (4, (0, x4_5))] [] (T, M) (qF T M 0 (fun v => (v = 1 ∧ pIm D s (M 1 1) = 1) ∨ (v = 0 ∧ pIm D s (M 1 1) = 0))) := by
      intro n7
      induction n7 with
      | zero => intro x3_4 x4_5 i8 i9 i10 i11 i12 i13 hm14; exact absurd hm14 (Nat.not_lt_zero _)
      | succ n7 ih15 =>
        intro x3_4 x4_5 i8 i9 i10 i11 i12 i13 hm14
        refine s_iload kx_74_29 rfl ?_
        refine s_iload_n kx_74_31 rfl ?_
        refine s_icmp_ge (t := 57) kx_74_32 (by decide) (fun hc16 => ?_) (fun hc16 => ?_)
        · have hck : x3_4 = pCk s (9 * D 0 1).toNat := by rw [show 9 * D 0 1 = x4_5 by omega]; exact i13
          refine s_iload_n kx_74_57 rfl ?_
          refine s_aload_n kx_74_58 rfl ?_
          refine r_getR (k := 1) (f := 0) (k2 := 2) kx_74_59 kp_74_164 (tk_1 hT) kf_8_0 (by decide) (rq_1_0 hI) ?_
          refine s_iload_n kx_74_62 rfl ?_
          refine r_ald (k := 2) kx_74_63 (tk_2 hT) ⟨by omega, by omega⟩ (rg_2 hI) (fun v17 v17e v17a v17b => ?_)
          have v17r : s ((v1 * 9)).toNat = v17 := (congrFun hs ((v1 * 9)).toNat).symm.trans (v17e)
          have v17s : s (9 * v1).toNat = v17 := (congrArg s (by omega)).trans v17r
          have hsl : s (9 * D 0 1).toNat = v17 := (congrArg s (by omega)).trans v17r
          refine s_icmp_eq (t := 69) kx_74_64 (by decide) (fun hc18 => ?_) (fun hc18 => ?_)
          · refine s_iconst (v := 0) kx_74_69 (by decide) ?_
            refine s_istore kx_74_70 km_74_4 rfl ?_
            have key20 : ∀ n21 : Nat, ∀ (x4_19 : Int), (0 ≤ x4_19) → (x4_19 ≤ 8) → (x4_19 ≤ D 0 1) → (pAll (cPe D s) (x4_19).toNat = 1) → (2147483647 - x4_19).toNat < n21 → cP k_P xs Ln (d + 1) 74 72 [(0, rf 7), (1, rf 1), (4, (0, x4_19))] [] (T, M) (qF T M 0 (fun v => (v = 1 ∧ pIm D s (M 1 1) = 1) ∨ (v = 0 ∧ pIm D s (M 1 1) = 0))) := by
              intro n21
              induction n21 with
              | zero => intro x4_19 i22 i23 i24 i25 hm26; exact absurd hm26 (Nat.not_lt_zero _)
              | succ n21 ih27 =>
                intro x4_19 i22 i23 i24 i25 hm26
                refine s_iload kx_74_72 rfl ?_
                refine s_aload_n kx_74_74 rfl ?_
                refine r_getR (k := 7) (f := 0) (k2 := t) kx_74_75 kp_74_14 (tk_7 hT) kf_5_0 (by decide) h70 ?_
                refine r_getK (k := t) (f := 1) kx_74_78 kp_74_36 (tkt_0 hT ht) kf_9_1 (fun _ => rfl) v1e ?_
                refine s_icmp_ge (t := 175) kx_74_81 (by decide) (fun hc28 => ?_) (fun hc28 => ?_)
                · have hpe : pAll (cPe D s) (D 0 1).toNat = 1 := by rw [show D 0 1 = x4_19 by omega]; exact i25
                  refine s_aload_n kx_74_175 rfl ?_
                  refine s_aload_n kx_74_176 rfl ?_
                  refine s_callV2 (k := 7) (s1 := 2) (s2 := 0) (as := [rf 1]) (rest := []) kx_74_177 kp_74_171 (Or.inl rfl) rfl (tk_7 hT) ki_75 kcl_75 rfl rfl (by decide) (g_75 (d := d) hT hI ht h70 hC hs) (kF (fun v29 v29p => ?_))
                  exact s_iret kx_74_180 (Or.inr ⟨kq_74, by omega⟩) ⟨_, rfl, rfl, (v29p.elim (fun z => Or.inl ⟨z.1, by have h9 := z.2; unfold pIm; exact if_pos (by omega)⟩) (fun z => Or.inr ⟨z.1, by have h9 := z.2; unfold pIm; exact if_neg (by omega)⟩))⟩
                · refine s_iload kx_74_84 rfl ?_
                  refine s_bipush (v := 9) kx_74_86 (by decide) ?_
                  refine r_mul kx_74_88 ⟨by omega, by omega⟩ ?_
                  refine s_istore kx_74_89 km_74_5 rfl ?_
                  refine s_aload_n kx_74_91 rfl ?_
                  refine r_getR (k := 7) (f := 0) (k2 := t) kx_74_92 kp_74_14 (tk_7 hT) kf_5_0 (by decide) h70 ?_
                  refine s_aload_n kx_74_95 rfl ?_
                  refine r_getR (k := 1) (f := 0) (k2 := 2) kx_74_96 kp_74_164 (tk_1 hT) kf_8_0 (by decide) (rq_1_0 hI) ?_
                  refine s_iload kx_74_99 rfl ?_
                  refine r_ald (k := 2) kx_74_101 (tk_2 hT) ⟨by omega, by omega⟩ (rg_2 hI) (fun v30 v30e v30a v30b => ?_)
                  have v30r : s ((x4_19 * 9)).toNat = v30 := (congrFun hs ((x4_19 * 9)).toNat).symm.trans (v30e)
                  have v30s : s (9 * x4_19).toNat = v30 := (congrArg s (by omega)).trans v30r
                  refine s_callV2 (k := t) (s1 := 2) (s2 := 0) (as := [(0, v30)]) (rest := []) kx_74_102 kp_74_72 (Or.inl rfl) rfl (tkt_0 hT ht) ki_106 kcl_106 rfl rfl (by decide) (g_106 (d := d) (room := v30) hT hI ht h70 hC) (kF (fun v31 v31p => ?_))
                  refine s_if_eq (t := 167) kx_74_105 (by decide) (fun hc32 => ?_) (fun hc32 => ?_)
                  · replace v31p := v31p.resolve_left (by omega)
                    refine s_iconst (v := 0) kx_74_167 (by decide) ?_
                    exact s_iret kx_74_168 (Or.inr ⟨kq_74, by omega⟩) ⟨_, rfl, rfl, (Or.inr ⟨rfl, by have h9 := pAll_0 (c := cPe D s) (x := x4_19) (by omega) (by unfold cPe; rw [if_neg (by omega)]; decide) (D 0 1).toNat (by omega); unfold pIm; exact if_neg (by omega)⟩)⟩
                  · replace v31p := v31p.resolve_right (by omega)
                    refine s_aload_n kx_74_108 rfl ?_
                    refine r_getR (k := 7) (f := 0) (k2 := t) kx_74_109 kp_74_14 (tk_7 hT) kf_5_0 (by decide) h70 ?_
                    refine s_aload_n kx_74_112 rfl ?_
                    refine r_getR (k := 1) (f := 0) (k2 := 2) kx_74_113 kp_74_164 (tk_1 hT) kf_8_0 (by decide) (rq_1_0 hI) ?_
                    refine s_iload kx_74_116 rfl ?_
                    refine s_iconst (v := 1) kx_74_118 (by decide) ?_
                    refine r_add kx_74_119 ⟨by omega, by omega⟩ ?_
                    refine r_ald (k := 2) kx_74_120 (tk_2 hT) ⟨by omega, by omega⟩ (rg_2 hI) (fun v33 v33e v33a v33b => ?_)
                    have v33r : s (((x4_19 * 9) + 1)).toNat = v33 := (congrFun hs (((x4_19 * 9) + 1)).toNat).symm.trans (v33e)
                    have v33s : s (9 * x4_19 + 1).toNat = v33 := (congrArg s (by omega)).trans v33r
                    refine s_callV2 (k := t) (s1 := 2) (s2 := 0) (as := [(0, v33)]) (rest := []) kx_74_121 kp_74_72 (Or.inl rfl) rfl (tkt_0 hT ht) ki_106 kcl_106 rfl rfl (by decide) (g_106 (d := d) (room := v33) hT hI ht h70 hC) (kF (fun v34 v34p => ?_))
                    refine s_if_eq (t := 167) kx_74_124 (by decide) (fun hc35 => ?_) (fun hc35 => ?_)
                    · replace v34p := v34p.resolve_left (by omega)
                      refine s_iconst (v := 0) kx_74_167 (by decide) ?_
                      exact s_iret kx_74_168 (Or.inr ⟨kq_74, by omega⟩) ⟨_, rfl, rfl, (Or.inr ⟨rfl, by have h9 := pAll_0 (c := cPe D s) (x := x4_19) (by omega) (by unfold cPe; rw [if_neg (by omega)]; decide) (D 0 1).toNat (by omega); unfold pIm; exact if_neg (by omega)⟩)⟩
                    · replace v34p := v34p.resolve_right (by omega)
                      refine s_aload_n kx_74_127 rfl ?_
                      refine r_getR (k := 1) (f := 0) (k2 := 2) kx_74_128 kp_74_164 (tk_1 hT) kf_8_0 (by decide) (rq_1_0 hI) ?_
                      refine s_iload kx_74_131 rfl ?_
                      refine s_iconst (v := 2) kx_74_133 (by decide) ?_
                      refine r_add kx_74_134 ⟨by omega, by omega⟩ ?_
                      refine r_ald (k := 2) kx_74_135 (tk_2 hT) ⟨by omega, by omega⟩ (rg_2 hI) (fun v36 v36e v36a v36b => ?_)
                      have v36r : s (((x4_19 * 9) + 2)).toNat = v36 := (congrFun hs (((x4_19 * 9) + 2)).toNat).symm.trans (v36e)
                      have v36s : s (9 * x4_19 + 2).toNat = v36 := (congrArg s (by omega)).trans v36r
                      refine s_iconst (v := 1) kx_74_136 (by decide) ?_
                      refine s_icmp_gt (t := 167) kx_74_137 (by decide) (fun hc37 => ?_) (fun hc37 => ?_)
                      · refine s_iconst (v := 0) kx_74_167 (by decide) ?_
                        exact s_iret kx_74_168 (Or.inr ⟨kq_74, by omega⟩) ⟨_, rfl, rfl, (Or.inr ⟨rfl, by have h9 := pAll_0 (c := cPe D s) (x := x4_19) (by omega) (by unfold cPe; rw [if_neg (by omega)]; decide) (D 0 1).toNat (by omega); unfold pIm; exact if_neg (by omega)⟩)⟩
                      · refine s_aload_n kx_74_140 rfl ?_
                        refine s_iload kx_74_141 rfl ?_
                        refine s_iconst (v := 3) kx_74_143 (by decide) ?_
                        refine r_add kx_74_144 ⟨by omega, by omega⟩ ?_
                        refine s_callS2 (s1 := 2) (s2 := 0) (as := [(0, ((x4_19 * 9) + 3)), rf 1]) (rest := []) kx_74_145 kp_74_167 rfl kcl_76 rfl rfl (by decide) (g_76 (d := d) (first := ((x4_19 * 9) + 3)) hT hI hs (by omega)) (kF (fun v38 v38p => ?_))
                        have h339 : v38 = p3b s (9 * x4_19 + 3) := by rw [v38p, show (x4_19 * 9) + 3 = 9 * x4_19 + 3 by omega]
                        refine s_ldc kx_74_148 kp_74_132 ?_
                        refine s_icmp_gt (t := 167) kx_74_150 (by decide) (fun hc40 => ?_) (fun hc40 => ?_)
                        · refine s_iconst (v := 0) kx_74_167 (by decide) ?_
                          exact s_iret kx_74_168 (Or.inr ⟨kq_74, by omega⟩) ⟨_, rfl, rfl, (Or.inr ⟨rfl, by have h9 := pAll_0 (c := cPe D s) (x := x4_19) (by omega) (by unfold cPe; rw [if_neg (by omega)]; decide) (D 0 1).toNat (by omega); unfold pIm; exact if_neg (by omega)⟩)⟩
                        · refine s_aload_n kx_74_153 rfl ?_
                          refine s_iload kx_74_154 rfl ?_
                          refine s_bipush (v := 6) kx_74_156 (by decide) ?_
                          refine r_add kx_74_158 ⟨by omega, by omega⟩ ?_
                          refine s_callS2 (s1 := 2) (s2 := 0) (as := [(0, ((x4_19 * 9) + 6)), rf 1]) (rest := []) kx_74_159 kp_74_167 rfl kcl_76 rfl rfl (by decide) (g_76 (d := d) (first := ((x4_19 * 9) + 6)) hT hI hs (by omega)) (kF (fun v41 v41p => ?_))
                          have h342 : v41 = p3b s (9 * x4_19 + 6) := by rw [v41p, show (x4_19 * 9) + 6 = 9 * x4_19 + 6 by omega]
                          refine s_ldc kx_74_162 kp_74_132 ?_
                          refine s_icmp_le (t := 169) kx_74_164 (by decide) (fun hc43 => ?_) (fun hc43 => ?_)
                          · refine r_iinc kx_74_169 rfl km_74_4 (by decide) ⟨by omega, by omega⟩ rfl ?_
                            refine s_goto (t := 72) kx_74_172 (by decide) ?_
                            exact cP.wk (lS1 rfl (lS1 rfl (lS1 rfl lS0))) (ih27 (x4_19 + 1) (by omega) (by omega) (by omega) (pAll_S i25 (by omega) (by unfold cPe; exact if_pos (by omega))) (by omega))
                          · refine s_iconst (v := 0) kx_74_167 (by decide) ?_
                            exact s_iret kx_74_168 (Or.inr ⟨kq_74, by omega⟩) ⟨_, rfl, rfl, (Or.inr ⟨rfl, by have h9 := pAll_0 (c := cPe D s) (x := x4_19) (by omega) (by unfold cPe; rw [if_neg (by omega)]; decide) (D 0 1).toNat (by omega); unfold pIm; exact if_neg (by omega)⟩)⟩
            exact cP.wk (lS1 rfl (lS1 rfl (lS1 rfl lS0))) (key20 _ 0 (by omega) (by omega) (by omega) rfl (Nat.lt_succ_self _))
          · refine s_iconst (v := 0) kx_74_67 (by decide) ?_
            exact s_iret kx_74_68 (Or.inr ⟨kq_74, by omega⟩) ⟨_, rfl, rfl, (Or.inr ⟨rfl, by unfold pIm; exact if_neg (by omega)⟩)⟩
        · refine s_iconst (v := 5) kx_74_35 (by decide) ?_
          refine s_iload_n kx_74_36 rfl ?_
          refine r_mul kx_74_37 ⟨by omega, by omega⟩ ?_
          refine s_aload_n kx_74_38 rfl ?_
          refine r_getR (k := 1) (f := 0) (k2 := 2) kx_74_39 kp_74_164 (tk_1 hT) kf_8_0 (by decide) (rq_1_0 hI) ?_
          refine s_iload kx_74_42 rfl ?_
          refine r_ald (k := 2) kx_74_44 (tk_2 hT) ⟨by omega, by omega⟩ (rg_2 hI) (fun v44 v44e v44a v44b => ?_)
          have v44r : s (x4_5).toNat = v44 := (congrFun hs (x4_5).toNat).symm.trans (v44e)
          refine r_add kx_74_45 ⟨by omega, by omega⟩ ?_
          refine s_sipush (v := 251) kx_74_46 (by decide) ?_
          refine r_irem kx_74_49 (by omega) (by omega) (by omega) (by omega) ?_
          refine s_istore_n kx_74_50 km_74_3 rfl ?_
          refine r_iinc kx_74_51 rfl km_74_4 (by decide) ⟨by omega, by omega⟩ rfl ?_
          refine s_goto (t := 29) kx_74_54 (by decide) ?_
          exact cP.wk (lS1 rfl (lS1 rfl (lS1 rfl (lS1 rfl (lS1 rfl lS0))))) (ih15 (((5 * x3_4) + v44) % 251) (x4_5 + 1) (by omega) (by omega) (by omega) (by omega) (by omega) (pCk_S i13 (by omega) v44r) (by omega))
    exact cP.wk (lS1 rfl (lS1 rfl (lS1 rfl (lS1 rfl (lS1 rfl lS0))))) (key6 _ 113 0 (by omega) (by omega) (by omega) (by omega) (by omega) rfl (Nat.lt_succ_self _))
  · refine s_iconst (v := 0) kx_74_21 (by decide) ?_
    exact s_iret kx_74_22 (Or.inr ⟨kq_74, by omega⟩) ⟨_, rfl, rfl, (Or.inr ⟨rfl, by unfold pIm; exact if_neg (by omega)⟩)⟩
def gC_77_l2 : List (Nat × Nat) := [(42, 99999)]
def gC_77_m : List (Nat × Nat) := [(42, 99999)]
theorem g_77 {xs : Nat → Int} {Ln d : Nat} {T : List cK} {M : cM} (hT : TT T) (hI : Rng M) {t : Nat} (ht : t = 8 ∨ t = 25) (h70 : M 7 0 = ((t : Nat) : Int)) {D S : cM} (hC : CR D S t M) {s : Nat → Int} (hs : M 2 = s) (p0 : pAll (cPe D s) (D 0 1).toNat = 1) : cC k_P xs Ln (d + 1) 77 [rf 7, rf 1] (T, M) (qV T M gC_77_m (fun M1 => CR D (pOz s S (D 0 1)) t M1)) := by
  show cP k_P xs Ln (d + 1) 77 0 [(0, rf 7), (1, rf 1)] [] (T, M) _
  have hFm : Fr gC_77_m M M := Fr.refl
  have hD := hC.2.1
  have hDr := hD.rg
  have hSW := hC.2.2.2.2.1
  refine s_iconst (v := 0) kx_77_0 (by decide) ?_
  have hc0 : CR D (pOk s S 0) t M := by rw [pOk_0]; exact hC
  have hs0 : ∀ i, 0 ≤ s i ∧ s i ≤ 255 := fun i => by rw [← hs]; exact rg_2 hI
  refine s_istore_n kx_77_1 km_77_2 rfl ?_
  have key3 : ∀ n4 : Nat, ∀ (x2_1 : Int), ∀ M2 : cM, Rng M2 → Fr gC_77_m M M2 → Fr gC_77_l2 M M2 → (0 ≤ x2_1) → (x2_1 ≤ 8) → (x2_1 ≤ D 0 1) → (CR D (pOk s S x2_1) t M2) → (2147483647 - x2_1).toNat < n4 → cP k_P xs Ln (d + 1) 77 2 [(0, rf 7), (1, rf 1), (2, (0, x2_1))] [] (T, M2) (qV T M gC_77_m (fun M1 => CR D (pOz s S (D 0 1)) t M1)) := by
    intro n4
    induction n4 with
    | zero => intro x2_1 M2 hI2 hFm2 fl2 i5 i6 i7 i8 hm9; exact absurd hm9 (Nat.not_lt_zero _)
    | succ n4 ih10 =>
      intro x2_1 M2 hI2 hFm2 fl2 i5 i6 i7 i8 hm9
      refine s_iload_n kx_77_2 rfl ?_
      refine s_aload_n kx_77_3 rfl ?_
      refine r_getR (k := 7) (f := 0) (k2 := t) kx_77_4 kp_77_14 (tk_7 hT) kf_5_0 (by decide) ((fl2 7 0 rfl).trans h70) ?_
      refine r_getI (k := t) (f := 1) kx_77_7 kp_77_36 (tkt_0 hT ht) kf_9_1 (fun _ => rfl) (rgt_0_1 hI2 ht) (fun v11 v11e v11a v11b => ?_)
      have v11d : D 0 1 = v11 := ((i8).1 0 1 (by decide)).symm.trans v11e
      have v11z : M t 1 = v11 := ((fl2 t 1 (by rcases ht with rfl | rfl <;> rfl))).symm.trans v11e
      refine s_icmp_ge (t := 105) kx_77_10 (by decide) (fun hc12 => ?_) (fun hc12 => ?_)
      · refine s_aload_n kx_77_105 rfl ?_
        refine r_getR (k := 7) (f := 2) (k2 := 42) kx_77_106 kp_77_21 (tk_7 hT) kf_5_2 (by decide) (rq_7_2 hI2) ?_
        refine s_bipush (v := 40) kx_77_109 (by decide) ?_
        refine s_iconst (v := 0) kx_77_111 (by decide) ?_
        refine r_ast (k := 42) kx_77_112 (tk_42 hT) ⟨by decide, by decide⟩ hI2 (ru_42 (fun _ => by omega) (fun _ => by omega)) (fun M13 hI13 u13 => ?_)
        have hFm13 := hFm2.up u13 rfl
        have hc14 := (CR.u5 i8 u13 ht rfl)
        exact s_vret kx_77_113 kq_77 ⟨_, rfl, rfl, hI13, hFm13, (by rw [show D 0 1 = x2_1 by omega]; exact hc14)⟩
      · have hpx := cPe_1 (pAll_at p0 (x := x2_1) (by omega) (by omega))
        refine s_iload_n kx_77_13 rfl ?_
        refine s_bipush (v := 9) kx_77_14 (by decide) ?_
        refine r_mul kx_77_16 ⟨by omega, by omega⟩ ?_
        refine s_istore_n kx_77_17 km_77_3 rfl ?_
        refine s_aload_n kx_77_18 rfl ?_
        refine r_getR (k := 7) (f := 2) (k2 := 42) kx_77_19 kp_77_21 (tk_7 hT) kf_5_2 (by decide) (rq_7_2 hI2) ?_
        refine s_iconst (v := 0) kx_77_22 (by decide) ?_
        refine s_iload_n kx_77_23 rfl ?_
        refine r_add kx_77_24 ⟨by omega, by omega⟩ ?_
        refine s_aload_n kx_77_25 rfl ?_
        refine r_getR (k := 1) (f := 0) (k2 := 2) kx_77_26 kp_77_164 (tk_1 hT) kf_8_0 (by decide) (rq_1_0 hI2) ?_
        refine s_iload_n kx_77_29 rfl ?_
        refine r_ald (k := 2) kx_77_30 (tk_2 hT) ⟨by omega, by omega⟩ (rg_2 hI2) (fun v15 v15e v15a v15b => ?_)
        have v15r : s ((x2_1 * 9)).toNat = v15 := (congrFun hs ((x2_1 * 9)).toNat).symm.trans (((fl2 2 _ rfl)).symm.trans v15e)
        have v15s : s (9 * x2_1).toNat = v15 := (congrArg s (by omega)).trans v15r
        refine r_ast (k := 42) kx_77_31 (tk_42 hT) ⟨by omega, by omega⟩ hI2 (ru_42 (fun _ => by omega) (fun _ => by omega)) (fun M16 hI16 u16 => ?_)
        have hFm16 := hFm2.up u16 rfl
        have hFl216 := fl2.up u16 rfl
        have hc17 := (CR.u0 i8 u16 ht (p := x2_1) ⟨by omega, by omega⟩ (by omega) ⟨by omega, by omega⟩)
        refine s_aload_n kx_77_32 rfl ?_
        refine r_getR (k := 7) (f := 2) (k2 := 42) kx_77_33 kp_77_21 (tk_7 hT) kf_5_2 (by decide) (rq_7_2 hI16) ?_
        refine s_bipush (v := 8) kx_77_36 (by decide) ?_
        refine s_iload_n kx_77_38 rfl ?_
        refine r_add kx_77_39 ⟨by omega, by omega⟩ ?_
        refine s_aload_n kx_77_40 rfl ?_
        refine r_getR (k := 1) (f := 0) (k2 := 2) kx_77_41 kp_77_164 (tk_1 hT) kf_8_0 (by decide) (rq_1_0 hI16) ?_
        refine s_iload_n kx_77_44 rfl ?_
        refine s_iconst (v := 1) kx_77_45 (by decide) ?_
        refine r_add kx_77_46 ⟨by omega, by omega⟩ ?_
        refine r_ald (k := 2) kx_77_47 (tk_2 hT) ⟨by omega, by omega⟩ (rg_2 hI16) (fun v18 v18e v18a v18b => ?_)
        have v18r : s (((x2_1 * 9) + 1)).toNat = v18 := (congrFun hs (((x2_1 * 9) + 1)).toNat).symm.trans ((((u16.2 2 _ (by omega)).trans (fl2 2 _ rfl))).symm.trans v18e)
        have v18s : s (9 * x2_1 + 1).toNat = v18 := (congrArg s (by omega)).trans v18r
        refine r_ast (k := 42) kx_77_48 (tk_42 hT) ⟨by omega, by omega⟩ hI16 (ru_42 (fun _ => by omega) (fun _ => by omega)) (fun M19 hI19 u19 => ?_)
        have hFm19 := hFm16.up u19 rfl
        have hFl219 := hFl216.up u19 rfl
        have hc20 := (CR.u1 hc17 u19 ht (p := x2_1) ⟨by omega, by omega⟩ (by omega) ⟨by omega, by omega⟩)
        refine s_aload_n kx_77_49 rfl ?_
        refine r_getR (k := 7) (f := 2) (k2 := 42) kx_77_50 kp_77_21 (tk_7 hT) kf_5_2 (by decide) (rq_7_2 hI19) ?_
        refine s_bipush (v := 16) kx_77_53 (by decide) ?_
        refine s_iload_n kx_77_55 rfl ?_
        refine r_add kx_77_56 ⟨by omega, by omega⟩ ?_
        refine s_aload_n kx_77_57 rfl ?_
        refine r_getR (k := 1) (f := 0) (k2 := 2) kx_77_58 kp_77_164 (tk_1 hT) kf_8_0 (by decide) (rq_1_0 hI19) ?_
        refine s_iload_n kx_77_61 rfl ?_
        refine s_iconst (v := 2) kx_77_62 (by decide) ?_
        refine r_add kx_77_63 ⟨by omega, by omega⟩ ?_
        refine r_ald (k := 2) kx_77_64 (tk_2 hT) ⟨by omega, by omega⟩ (rg_2 hI19) (fun v21 v21e v21a v21b => ?_)
        have v21r : s (((x2_1 * 9) + 2)).toNat = v21 := (congrFun hs (((x2_1 * 9) + 2)).toNat).symm.trans ((((u19.2 2 _ (by omega)).trans ((u16.2 2 _ (by omega)).trans (fl2 2 _ rfl)))).symm.trans v21e)
        have v21s : s (9 * x2_1 + 2).toNat = v21 := (congrArg s (by omega)).trans v21r
        refine r_ast (k := 42) kx_77_65 (tk_42 hT) ⟨by omega, by omega⟩ hI19 (ru_42 (fun _ => by omega) (fun _ => by omega)) (fun M22 hI22 u22 => ?_)
        have hFm22 := hFm19.up u22 rfl
        have hFl222 := hFl219.up u22 rfl
        have hc23 := (CR.u2 hc20 u22 ht (p := x2_1) ⟨by omega, by omega⟩ (by omega) (by omega))
        refine s_aload_n kx_77_66 rfl ?_
        refine r_getR (k := 7) (f := 2) (k2 := 42) kx_77_67 kp_77_21 (tk_7 hT) kf_5_2 (by decide) (rq_7_2 hI22) ?_
        refine s_bipush (v := 24) kx_77_70 (by decide) ?_
        refine s_iload_n kx_77_72 rfl ?_
        refine r_add kx_77_73 ⟨by omega, by omega⟩ ?_
        refine s_aload_n kx_77_74 rfl ?_
        refine s_iload_n kx_77_75 rfl ?_
        refine s_iconst (v := 3) kx_77_76 (by decide) ?_
        refine r_add kx_77_77 ⟨by omega, by omega⟩ ?_
        refine s_callS2 (s1 := 2) (s2 := 2) (as := [(0, ((x2_1 * 9) + 3)), rf 1]) (rest := [(0, (24 + x2_1)), rf 42]) kx_77_78 kp_77_167 rfl kcl_76 rfl rfl (by decide) (g_76 (d := d) (first := ((x2_1 * 9) + 3)) hT hI22 ((funext fun i => ((u22.2 2 _ (by omega)).trans ((u19.2 2 _ (by omega)).trans ((u16.2 2 _ (by omega)).trans (fl2 2 _ rfl))))).trans hs) (by omega)) (kF (fun v24 v24p => ?_))
        have v24h8 : v24 = p3b s (9 * x2_1 + 3) := by rw [v24p, show (x2_1 * 9) + 3 = 9 * x2_1 + 3 by omega]
        have v24h9 := p3b_r hs0 (9 * x2_1 + 3)
        have v24q : v24 = p3b s (9 * x2_1 + 3) ∧ 0 ≤ v24 ∧ v24 ≤ 99999 := ⟨v24h8, by omega, by omega⟩
        refine r_ast (k := 42) kx_77_81 (tk_42 hT) ⟨by omega, by omega⟩ hI22 (ru_42 (fun _ => by omega) (fun _ => by omega)) (fun M25 hI25 u25 => ?_)
        have hFm25 := hFm22.up u25 rfl
        have hFl225 := hFl222.up u25 rfl
        have hc26 := (CR.u4 hc23 u25 ht (p := x2_1) ⟨by omega, by omega⟩ (by omega) ⟨by omega, by omega⟩)
        refine s_aload_n kx_77_82 rfl ?_
        refine r_getR (k := 7) (f := 2) (k2 := 42) kx_77_83 kp_77_21 (tk_7 hT) kf_5_2 (by decide) (rq_7_2 hI25) ?_
        refine s_bipush (v := 32) kx_77_86 (by decide) ?_
        refine s_iload_n kx_77_88 rfl ?_
        refine r_add kx_77_89 ⟨by omega, by omega⟩ ?_
        refine s_aload_n kx_77_90 rfl ?_
        refine s_iload_n kx_77_91 rfl ?_
        refine s_bipush (v := 6) kx_77_92 (by decide) ?_
        refine r_add kx_77_94 ⟨by omega, by omega⟩ ?_
        refine s_callS2 (s1 := 2) (s2 := 2) (as := [(0, ((x2_1 * 9) + 6)), rf 1]) (rest := [(0, (32 + x2_1)), rf 42]) kx_77_95 kp_77_167 rfl kcl_76 rfl rfl (by decide) (g_76 (d := d) (first := ((x2_1 * 9) + 6)) hT hI25 ((funext fun i => ((u25.2 2 _ (by omega)).trans ((u22.2 2 _ (by omega)).trans ((u19.2 2 _ (by omega)).trans ((u16.2 2 _ (by omega)).trans (fl2 2 _ rfl)))))).trans hs) (by omega)) (kF (fun v27 v27p => ?_))
        refine r_ast (k := 42) kx_77_98 (tk_42 hT) ⟨by omega, by omega⟩ hI25 (ru_42 (fun _ => by omega) (fun _ => by omega)) (fun M28 hI28 u28 => ?_)
        have hFm28 := hFm25.up u28 rfl
        have hFl228 := hFl225.up u28 rfl
        have hc29 := (CR.u24 hc26 u28 ht (by omega))
        refine r_iinc kx_77_99 rfl km_77_2 (by decide) ⟨by omega, by omega⟩ rfl ?_
        refine s_goto (t := 2) kx_77_102 (by decide) ?_
        have hc30 : CR D (pOk s S (x2_1 + 1)) t M28 := by rw [← pOk_S (by omega) v15s v18s v21s v24q.1.symm]; exact hc29
        exact cP.wk (lS1 rfl (lS1 rfl (lS1 rfl lS0))) (ih10 (x2_1 + 1) M28 hI28 hFm28 hFl228 (by omega) (by omega) (by omega) hc30 (by omega))
  exact cP.wk (lS1 rfl (lS1 rfl (lS1 rfl lS0))) (key3 _ 0 M hI hFm Fr.refl (by omega) (by omega) (by omega) hc0 (Nat.lt_succ_self _))
def gC_163_m : List (Nat × Nat) := [(1, 1), (42, 99999), (44, 2), (61, 99999)]
theorem g_163 {xs : Nat → Int} {Ln d : Nat} {T : List cK} {M : cM} (hT : TT T) (hI : Rng M) {t : Nat} (ht : t = 8 ∨ t = 25) (h70 : M 7 0 = ((t : Nat) : Int)) {D S : cM} (hC : CR D S t M) {H : Nat → cM} {hc : Int} (hH : CH D H hc M) {s : Nat → Int} (hs : M 2 = s) : cC k_P xs Ln (d + 2) 163 [rf 0] (T, M) (qW T M gC_163_m 0 (fun v M1 => (((v = 1 ∧ pIm D s (M 1 1) = 1) ∧ CR D (pOz s S (D 0 1)) t M1 ∧ CH D H 0 M1) ∨ ((v = 0 ∧ pIm D s (M 1 1) = 0) ∧ CR D S t M1 ∧ CH D H hc M1)) ∧ M1 1 1 = 0)) := by
  show cP k_P xs Ln (d + 2) 163 0 [(0, rf 0)] [] (T, M) _
  have hFm : Fr gC_163_m M M := Fr.refl
  have hD := hC.2.1
  have hDr := hD.rg
  have hSW := hC.2.2.2.2.1
  refine s_aload_n kx_163_0 rfl ?_
  refine r_getR (k := 0) (f := 2) (k2 := 7) kx_163_1 kp_163_26 (tk_0 hT) kf_11_2 (by decide) (rq_0_2 hI) ?_
  refine s_aload_n kx_163_4 rfl ?_
  refine r_getR (k := 0) (f := 0) (k2 := 1) kx_163_5 kp_163_10 (tk_0 hT) kf_11_0 (by decide) (rq_0_0 hI) ?_
  refine s_callV2 (k := 7) (s1 := 2) (s2 := 0) (as := [rf 1]) (rest := []) kx_163_8 kp_163_315 (Or.inl rfl) rfl (tk_7 hT) ki_74 kcl_74 rfl rfl (by decide) (g_74 (d := d) hT hI ht h70 hC hs) (kF (fun v1 v1p => ?_))
  refine s_istore_n kx_163_11 km_163_1 rfl ?_
  refine s_iload_n kx_163_12 rfl ?_
  refine s_if_eq (t := 38) kx_163_13 (by decide) (fun hc2 => ?_) (fun hc2 => ?_)
  · replace v1p := v1p.resolve_left (by omega)
    refine s_aload_n kx_163_38 rfl ?_
    refine s_iconst (v := 5) kx_163_39 (by decide) ?_
    refine s_callV2 (k := 0) (s1 := 2) (s2 := 0) (as := [(0, 5)]) (rest := []) kx_163_40 kp_163_81 (Or.inl rfl) rfl (tk_0 hT) ki_165 kcl_165 rfl rfl (by decide) (m_165 (d := d + 1) (kind := 5) hT hI) (kW (fun v3 M4 hI4 fr4 v3p => ?_))
    have hFm4 := hFm.call fr4 rfl
    have hc5 := (CR.fr hC fr4 ht rfl)
    refine s_pop kx_163_43 rfl ?_
    refine s_aload_n kx_163_44 rfl ?_
    refine r_getR (k := 0) (f := 0) (k2 := 1) kx_163_45 kp_163_10 (tk_0 hT) kf_11_0 (by decide) (rq_0_0 hI4) ?_
    refine s_iconst (v := 0) kx_163_48 (by decide) ?_
    refine r_put (k := 1) (f := 1) kx_163_49 kp_163_78 (tk_1 hT) kf_8_1 rfl (by decide) (by decide) hI4 (ru_1_1 (by omega) (by omega)) (fun M6 hI6 u6 => ?_)
    have hFm6 := hFm4.up u6 rfl
    have hc7 := (CR.up hc5 u6 ht (by omega))
    refine s_iload_n kx_163_52 rfl ?_
    exact s_iret kx_163_53 (Or.inr ⟨kq_163, by omega⟩) ⟨_, _, rfl, rfl, hI6, hFm6, ⟨(Or.inr ⟨by omega, hc7, (CH.up (CH.fr hH fr4 rfl) u6 (by omega))⟩), u6.1⟩⟩
  · replace v1p := v1p.resolve_right (by omega)
    have him := pIm_1 (D := D) (s := s) (n := M 1 1) (by omega)
    refine s_aload_n kx_163_16 rfl ?_
    refine r_getR (k := 0) (f := 2) (k2 := 7) kx_163_17 kp_163_26 (tk_0 hT) kf_11_2 (by decide) (rq_0_2 hI) ?_
    refine s_aload_n kx_163_20 rfl ?_
    refine r_getR (k := 0) (f := 0) (k2 := 1) kx_163_21 kp_163_10 (tk_0 hT) kf_11_0 (by decide) (rq_0_0 hI) ?_
    refine s_callV2 (k := 7) (s1 := 2) (s2 := 0) (as := [rf 1]) (rest := []) kx_163_24 kp_163_319 (Or.inl rfl) rfl (tk_7 hT) ki_77 kcl_77 rfl rfl (by decide) (g_77 (d := d) hT hI ht h70 hC hs him.2.2.1) (kV (fun M9 hI9 fr9 v8p => ?_))
    have hFm9 := hFm.call fr9 rfl
    have hc10 := v8p
    refine s_aload_n kx_163_27 rfl ?_
    refine r_getR (k := 0) (f := 3) (k2 := 44) kx_163_28 kp_163_33 (tk_0 hT) kf_11_3 (by decide) (rq_0_3 hI9) ?_
    refine s_iconst (v := 0) kx_163_31 (by decide) ?_
    refine r_put (k := 44) (f := 2) kx_163_32 kp_163_110 (tk_44 hT) kf_2_2 rfl (by decide) (by decide) hI9 ru_44_2 (fun M11 hI11 u11 => ?_)
    have hFm11 := hFm9.up u11 rfl
    have hc12 := (CR.up hc10 u11 ht (by omega))
    refine s_goto (t := 44) kx_163_35 (by decide) ?_
    refine s_aload_n kx_163_44 rfl ?_
    refine r_getR (k := 0) (f := 0) (k2 := 1) kx_163_45 kp_163_10 (tk_0 hT) kf_11_0 (by decide) (rq_0_0 hI11) ?_
    refine s_iconst (v := 0) kx_163_48 (by decide) ?_
    refine r_put (k := 1) (f := 1) kx_163_49 kp_163_78 (tk_1 hT) kf_8_1 rfl (by decide) (by decide) hI11 (ru_1_1 (by omega) (by omega)) (fun M13 hI13 u13 => ?_)
    have hFm13 := hFm11.up u13 rfl
    have hc14 := (CR.up hc12 u13 ht (by omega))
    refine s_iload_n kx_163_52 rfl ?_
    exact s_iret kx_163_53 (Or.inr ⟨kq_163, by omega⟩) ⟨_, _, rfl, rfl, hI13, hFm13, ⟨(Or.inl ⟨by omega, hc14, CH.zero (((u13.2 44 2 (by omega)).trans u11.1))⟩), u13.1⟩⟩
theorem g_53 {xs : Nat → Int} {Ln d : Nat} {T : List cK} {M : cM} (hT : TT T) (hI : Rng M) {t : Nat} (ht : t = 8 ∨ t = 25) (h70 : M 7 0 = ((t : Nat) : Int)) {room : Int} {D S : cM} (hC : CR D S t M) : cC k_P xs Ln (d + 1) 53 [rf 7, (0, room)] (T, M) (qF T M 0 (fun v => v = pBs (cIn S 0 room) (D 0 1).toNat)) := by
  show cP k_P xs Ln (d + 1) 53 0 [(0, rf 7), (1, (0, room))] [] (T, M) _
  have hD := hC.2.1
  have hDr := hD.rg
  have hSW := hC.2.2.2.2.1
  refine s_iconst (v := 0) kx_53_0 (by decide) ?_
  refine s_istore_n kx_53_1 km_53_2 rfl ?_
  refine s_iconst (v := 0) kx_53_2 (by decide) ?_
  refine s_istore_n kx_53_3 km_53_3 rfl ?_
  have key3 : ∀ n4 : Nat, ∀ (x2_1 x3_2 : Int), (0 ≤ x3_2) → (x3_2 ≤ 8) → (x3_2 ≤ D 0 1) → (x2_1 = pBs (cIn S 0 room) (x3_2).toNat) → (2147483647 - x3_2).toNat < n4 → cP k_P xs Ln (d + 1) 53 4 [(0, rf 7), (1, (0, room)), (2, (0, x2_1)), (3, (0, x3_2))] [] (T, M) (qF T M 0 (fun v => v = pBs (cIn S 0 room) (D 0 1).toNat)) := by
    intro n4
    induction n4 with
    | zero => intro x2_1 x3_2 i5 i6 i7 i8 hm9; exact absurd hm9 (Nat.not_lt_zero _)
    | succ n4 ih10 =>
      intro x2_1 x3_2 i5 i6 i7 i8 hm9
      refine s_iload_n kx_53_4 rfl ?_
      refine s_aload_n kx_53_5 rfl ?_
      refine r_getR (k := 7) (f := 0) (k2 := t) kx_53_6 kp_53_14 (tk_7 hT) kf_5_0 (by decide) h70 ?_
      refine r_getI (k := t) (f := 1) kx_53_9 kp_53_36 (tkt_0 hT ht) kf_9_1 (fun _ => rfl) (rgt_0_1 hI ht) (fun v11 v11e v11a v11b => ?_)
      have v11d : D 0 1 = v11 := ((hC).1 0 1 (by decide)).symm.trans v11e
      refine s_icmp_ge (t := 40) kx_53_12 (by decide) (fun hc12 => ?_) (fun hc12 => ?_)
      · refine s_iload_n kx_53_40 rfl ?_
        exact s_iret kx_53_41 (Or.inl kq_53) ⟨_, rfl, rfl, (by rw [show D 0 1 = x3_2 by omega]; exact i8)⟩
      · refine s_iload_n kx_53_15 rfl ?_
        refine s_aload_n kx_53_16 rfl ?_
        refine s_iload_n kx_53_17 rfl ?_
        refine s_callV2 (k := 7) (s1 := 2) (s2 := 1) (as := [(0, x3_2)]) (rest := [(0, x2_1)]) kx_53_18 kp_53_63 (Or.inl rfl) rfl (tk_7 hT) ki_43 kcl_43 rfl rfl (by decide) (g_43 (d := d) (person := x3_2) hT hI ht h70 hC (by omega) (by omega)) (kF (fun v13 v13p => ?_))
        refine s_iload_n kx_53_21 rfl ?_
        refine s_icmp_ne (t := 31) kx_53_22 (by decide) (fun hc14 => ?_) (fun hc14 => ?_)
        · refine s_iconst (v := 0) kx_53_31 (by decide) ?_
          refine s_ior (z := (tbO x2_1 0)) kx_53_32 rfl ?_
          refine s_istore_n kx_53_33 km_53_2 rfl ?_
          refine r_iinc kx_53_34 rfl km_53_3 (by decide) ⟨by omega, by omega⟩ rfl ?_
          refine s_goto (t := 4) kx_53_37 (by decide) ?_
          exact cP.wk (lS1 rfl (lS1 rfl (lS1 rfl (lS1 rfl lS0)))) (ih10 (tbO x2_1 0) (x3_2 + 1) (by omega) (by omega) (by omega) (pBs_S i8 (by omega) (Or.inr ⟨by unfold cIn; rw [if_neg (by omega)]; decide, rfl⟩)) (by omega))
        · refine s_iconst (v := 1) kx_53_25 (by decide) ?_
          refine s_iload_n kx_53_26 rfl ?_
          refine s_ishl (z := (tbL 1 x3_2)) kx_53_27 rfl ?_
          refine s_goto (t := 32) kx_53_28 (by decide) ?_
          refine s_ior (z := (tbO x2_1 (tbL 1 x3_2))) kx_53_32 rfl ?_
          refine s_istore_n kx_53_33 km_53_2 rfl ?_
          refine r_iinc kx_53_34 rfl km_53_3 (by decide) ⟨by omega, by omega⟩ rfl ?_
          refine s_goto (t := 4) kx_53_37 (by decide) ?_
          exact cP.wk (lS1 rfl (lS1 rfl (lS1 rfl (lS1 rfl lS0)))) (ih10 (tbO x2_1 (tbL 1 x3_2)) (x3_2 + 1) (by omega) (by omega) (by omega) (pBs_S i8 (by omega) (Or.inl ⟨by unfold cIn; exact if_pos (by omega), rfl⟩)) (by omega))
  exact cP.wk (lS1 rfl (lS1 rfl (lS1 rfl (lS1 rfl lS0)))) (key3 _ 0 0 (by omega) (by omega) (by omega) rfl (Nat.lt_succ_self _))
theorem g_54 {xs : Nat → Int} {Ln d : Nat} {T : List cK} {M : cM} (hT : TT T) (hI : Rng M) {t : Nat} (ht : t = 8 ∨ t = 25) (h70 : M 7 0 = ((t : Nat) : Int)) {room : Int} {D S : cM} (hC : CR D S t M) : cC k_P xs Ln (d + 1) 54 [rf 7, (0, room)] (T, M) (qF T M 0 (fun v => v = pBs (cIn S 1 room) (D 0 1).toNat)) := by
  show cP k_P xs Ln (d + 1) 54 0 [(0, rf 7), (1, (0, room))] [] (T, M) _
  have hD := hC.2.1
  have hDr := hD.rg
  have hSW := hC.2.2.2.2.1
  refine s_iconst (v := 0) kx_54_0 (by decide) ?_
  refine s_istore_n kx_54_1 km_54_2 rfl ?_
  refine s_iconst (v := 0) kx_54_2 (by decide) ?_
  refine s_istore_n kx_54_3 km_54_3 rfl ?_
  have key3 : ∀ n4 : Nat, ∀ (x2_1 x3_2 : Int), (0 ≤ x3_2) → (x3_2 ≤ 8) → (x3_2 ≤ D 0 1) → (x2_1 = pBs (cIn S 1 room) (x3_2).toNat) → (2147483647 - x3_2).toNat < n4 → cP k_P xs Ln (d + 1) 54 4 [(0, rf 7), (1, (0, room)), (2, (0, x2_1)), (3, (0, x3_2))] [] (T, M) (qF T M 0 (fun v => v = pBs (cIn S 1 room) (D 0 1).toNat)) := by
    intro n4
    induction n4 with
    | zero => intro x2_1 x3_2 i5 i6 i7 i8 hm9; exact absurd hm9 (Nat.not_lt_zero _)
    | succ n4 ih10 =>
      intro x2_1 x3_2 i5 i6 i7 i8 hm9
      refine s_iload_n kx_54_4 rfl ?_
      refine s_aload_n kx_54_5 rfl ?_
      refine r_getR (k := 7) (f := 0) (k2 := t) kx_54_6 kp_54_14 (tk_7 hT) kf_5_0 (by decide) h70 ?_
      refine r_getI (k := t) (f := 1) kx_54_9 kp_54_36 (tkt_0 hT ht) kf_9_1 (fun _ => rfl) (rgt_0_1 hI ht) (fun v11 v11e v11a v11b => ?_)
      have v11d : D 0 1 = v11 := ((hC).1 0 1 (by decide)).symm.trans v11e
      refine s_icmp_ge (t := 40) kx_54_12 (by decide) (fun hc12 => ?_) (fun hc12 => ?_)
      · refine s_iload_n kx_54_40 rfl ?_
        exact s_iret kx_54_41 (Or.inl kq_54) ⟨_, rfl, rfl, (by rw [show D 0 1 = x3_2 by omega]; exact i8)⟩
      · refine s_iload_n kx_54_15 rfl ?_
        refine s_aload_n kx_54_16 rfl ?_
        refine s_iload_n kx_54_17 rfl ?_
        refine s_callV2 (k := 7) (s1 := 2) (s2 := 1) (as := [(0, x3_2)]) (rest := [(0, x2_1)]) kx_54_18 kp_54_66 (Or.inl rfl) rfl (tk_7 hT) ki_44 kcl_44 rfl rfl (by decide) (g_44 (d := d) (chair := x3_2) hT hI ht h70 hC (by omega) (by omega)) (kF (fun v13 v13p => ?_))
        refine s_iload_n kx_54_21 rfl ?_
        refine s_icmp_ne (t := 31) kx_54_22 (by decide) (fun hc14 => ?_) (fun hc14 => ?_)
        · refine s_iconst (v := 0) kx_54_31 (by decide) ?_
          refine s_ior (z := (tbO x2_1 0)) kx_54_32 rfl ?_
          refine s_istore_n kx_54_33 km_54_2 rfl ?_
          refine r_iinc kx_54_34 rfl km_54_3 (by decide) ⟨by omega, by omega⟩ rfl ?_
          refine s_goto (t := 4) kx_54_37 (by decide) ?_
          exact cP.wk (lS1 rfl (lS1 rfl (lS1 rfl (lS1 rfl lS0)))) (ih10 (tbO x2_1 0) (x3_2 + 1) (by omega) (by omega) (by omega) (pBs_S i8 (by omega) (Or.inr ⟨by unfold cIn; rw [if_neg (by omega)]; decide, rfl⟩)) (by omega))
        · refine s_iconst (v := 1) kx_54_25 (by decide) ?_
          refine s_iload_n kx_54_26 rfl ?_
          refine s_ishl (z := (tbL 1 x3_2)) kx_54_27 rfl ?_
          refine s_goto (t := 32) kx_54_28 (by decide) ?_
          refine s_ior (z := (tbO x2_1 (tbL 1 x3_2))) kx_54_32 rfl ?_
          refine s_istore_n kx_54_33 km_54_2 rfl ?_
          refine r_iinc kx_54_34 rfl km_54_3 (by decide) ⟨by omega, by omega⟩ rfl ?_
          refine s_goto (t := 4) kx_54_37 (by decide) ?_
          exact cP.wk (lS1 rfl (lS1 rfl (lS1 rfl (lS1 rfl lS0)))) (ih10 (tbO x2_1 (tbL 1 x3_2)) (x3_2 + 1) (by omega) (by omega) (by omega) (pBs_S i8 (by omega) (Or.inl ⟨by unfold cIn; exact if_pos (by omega), rfl⟩)) (by omega))
  exact cP.wk (lS1 rfl (lS1 rfl (lS1 rfl (lS1 rfl lS0)))) (key3 _ 0 0 (by omega) (by omega) (by omega) rfl (Nat.lt_succ_self _))
theorem g_55 {xs : Nat → Int} {Ln d : Nat} {T : List cK} {M : cM} (hT : TT T) (hI : Rng M) {t : Nat} (ht : t = 8 ∨ t = 25) (h70 : M 7 0 = ((t : Nat) : Int)) {room : Int} {D S : cM} (hC : CR D S t M) : cC k_P xs Ln (d + 3) 55 [rf 7, (0, room)] (T, M) (qF T M 0 (fun v => v = pBs (cSt D S room) (D 0 1).toNat)) := by
  show cP k_P xs Ln (d + 3) 55 0 [(0, rf 7), (1, (0, room))] [] (T, M) _
  have hD := hC.2.1
  have hDr := hD.rg
  have hSW := hC.2.2.2.2.1
  refine s_iconst (v := 0) kx_55_0 (by decide) ?_
  refine s_istore_n kx_55_1 km_55_2 rfl ?_
  refine s_iconst (v := 0) kx_55_2 (by decide) ?_
  refine s_istore_n kx_55_3 km_55_3 rfl ?_
  have key3 : ∀ n4 : Nat, ∀ (x2_1 x3_2 : Int), (0 ≤ x3_2) → (x3_2 ≤ 8) → (x3_2 ≤ D 0 1) → (x2_1 = pBs (cSt D S room) (x3_2).toNat) → (2147483647 - x3_2).toNat < n4 → cP k_P xs Ln (d + 3) 55 4 [(0, rf 7), (1, (0, room)), (2, (0, x2_1)), (3, (0, x3_2))] [] (T, M) (qF T M 0 (fun v => v = pBs (cSt D S room) (D 0 1).toNat)) := by
    intro n4
    induction n4 with
    | zero => intro x2_1 x3_2 i5 i6 i7 i8 hm9; exact absurd hm9 (Nat.not_lt_zero _)
    | succ n4 ih10 =>
      intro x2_1 x3_2 i5 i6 i7 i8 hm9
      refine s_iload_n kx_55_4 rfl ?_
      refine s_aload_n kx_55_5 rfl ?_
      refine r_getR (k := 7) (f := 0) (k2 := t) kx_55_6 kp_55_14 (tk_7 hT) kf_5_0 (by decide) h70 ?_
      refine r_getI (k := t) (f := 1) kx_55_9 kp_55_36 (tkt_0 hT ht) kf_9_1 (fun _ => rfl) (rgt_0_1 hI ht) (fun v11 v11e v11a v11b => ?_)
      have v11d : D 0 1 = v11 := ((hC).1 0 1 (by decide)).symm.trans v11e
      refine s_icmp_ge (t := 48) kx_55_12 (by decide) (fun hc12 => ?_) (fun hc12 => ?_)
      · refine s_iload_n kx_55_48 rfl ?_
        exact s_iret kx_55_49 (Or.inl kq_55) ⟨_, rfl, rfl, (by rw [show D 0 1 = x3_2 by omega]; exact i8)⟩
      · refine s_iload_n kx_55_15 rfl ?_
        refine s_aload_n kx_55_16 rfl ?_
        refine s_iload_n kx_55_17 rfl ?_
        refine s_callV2 (k := 7) (s1 := 2) (s2 := 1) (as := [(0, x3_2)]) (rest := [(0, x2_1)]) kx_55_18 kp_55_63 (Or.inl rfl) rfl (tk_7 hT) ki_43 kcl_43 rfl rfl (by decide) (g_43 (d := d + 2) (person := x3_2) hT hI ht h70 hC (by omega) (by omega)) (kF (fun v13 v13p => ?_))
        refine s_iload_n kx_55_21 rfl ?_
        refine s_icmp_ne (t := 39) kx_55_22 (by decide) (fun hc14 => ?_) (fun hc14 => ?_)
        · refine s_iconst (v := 0) kx_55_39 (by decide) ?_
          refine s_ior (z := (tbO x2_1 0)) kx_55_40 rfl ?_
          refine s_istore_n kx_55_41 km_55_2 rfl ?_
          refine r_iinc kx_55_42 rfl km_55_3 (by decide) ⟨by omega, by omega⟩ rfl ?_
          refine s_goto (t := 4) kx_55_45 (by decide) ?_
          exact cP.wk (lS1 rfl (lS1 rfl (lS1 rfl (lS1 rfl lS0)))) (ih10 (tbO x2_1 0) (x3_2 + 1) (by omega) (by omega) (by omega) (pBs_S i8 (by omega) (Or.inr ⟨by unfold cSt; rw [if_neg (by omega)]; decide, rfl⟩)) (by omega))
        · refine s_aload_n kx_55_25 rfl ?_
          refine s_iload_n kx_55_26 rfl ?_
          refine s_callV2 (k := 7) (s1 := 2) (s2 := 1) (as := [(0, x3_2)]) (rest := [(0, x2_1)]) kx_55_27 kp_55_43 (Or.inl rfl) rfl (tk_7 hT) ki_58 kcl_58 rfl rfl (by decide) (g_58 (d := d) (person := x3_2) hT hI ht h70 hC (by omega) (by omega)) (kF (fun v16 v16p => ?_))
          refine s_if_eq (t := 39) kx_55_30 (by decide) (fun hc17 => ?_) (fun hc17 => ?_)
          · replace v16p := v16p.resolve_left (by omega)
            refine s_iconst (v := 0) kx_55_39 (by decide) ?_
            refine s_ior (z := (tbO x2_1 0)) kx_55_40 rfl ?_
            refine s_istore_n kx_55_41 km_55_2 rfl ?_
            refine r_iinc kx_55_42 rfl km_55_3 (by decide) ⟨by omega, by omega⟩ rfl ?_
            refine s_goto (t := 4) kx_55_45 (by decide) ?_
            exact cP.wk (lS1 rfl (lS1 rfl (lS1 rfl (lS1 rfl lS0)))) (ih10 (tbO x2_1 0) (x3_2 + 1) (by omega) (by omega) (by omega) (pBs_S i8 (by omega) (Or.inr ⟨by unfold cSt; rw [if_neg (by omega)]; decide, rfl⟩)) (by omega))
          · replace v16p := v16p.resolve_right (by omega)
            refine s_iconst (v := 1) kx_55_33 (by decide) ?_
            refine s_iload_n kx_55_34 rfl ?_
            refine s_ishl (z := (tbL 1 x3_2)) kx_55_35 rfl ?_
            refine s_goto (t := 40) kx_55_36 (by decide) ?_
            refine s_ior (z := (tbO x2_1 (tbL 1 x3_2))) kx_55_40 rfl ?_
            refine s_istore_n kx_55_41 km_55_2 rfl ?_
            refine r_iinc kx_55_42 rfl km_55_3 (by decide) ⟨by omega, by omega⟩ rfl ?_
            refine s_goto (t := 4) kx_55_45 (by decide) ?_
            exact cP.wk (lS1 rfl (lS1 rfl (lS1 rfl (lS1 rfl lS0)))) (ih10 (tbO x2_1 (tbL 1 x3_2)) (x3_2 + 1) (by omega) (by omega) (by omega) (pBs_S i8 (by omega) (Or.inl ⟨by unfold cSt; exact if_pos (by omega), rfl⟩)) (by omega))
  exact cP.wk (lS1 rfl (lS1 rfl (lS1 rfl (lS1 rfl lS0)))) (key3 _ 0 0 (by omega) (by omega) (by omega) rfl (Nat.lt_succ_self _))
theorem g_142 {xs : Nat → Int} {Ln d : Nat} {T : List cK} {M : cM} (hT : TT T) (hI : Rng M) {t : Nat} (ht : t = 8 ∨ t = 25) (h70 : M 7 0 = ((t : Nat) : Int)) {room what : Int} {D S : cM} (hC : CR D S t M) : cC k_P xs Ln (d + 4) 142 [rf 0, (0, room), (0, what)] (T, M) (qF T M 0 (fun v => v = pRo D S room what)) := by
  show cP k_P xs Ln (d + 4) 142 0 [(0, rf 0), (1, (0, room)), (2, (0, what))] [] (T, M) _
  have hD := hC.2.1
  have hDr := hD.rg
  have hSW := hC.2.2.2.2.1
  refine s_aload_n kx_142_0 rfl ?_
  refine r_getR (k := 0) (f := 2) (k2 := 7) kx_142_1 kp_142_26 (tk_0 hT) kf_11_2 (by decide) (rq_0_2 hI) ?_
  refine r_getR (k := 7) (f := 0) (k2 := t) kx_142_4 kp_142_120 (tk_7 hT) kf_5_0 (by decide) h70 ?_
  refine s_iload_n kx_142_7 rfl ?_
  refine s_callV2 (k := t) (s1 := 2) (s2 := 0) (as := [(0, room)]) (rest := []) kx_142_8 kp_142_153 (Or.inl rfl) rfl (tkt_0 hT ht) ki_106 kcl_106 rfl rfl (by decide) (g_106 (d := d + 3) (room := room) hT hI ht h70 hC) (kF (fun v1 v1p => ?_))
  refine s_if_ne (t := 16) kx_142_11 (by decide) (fun hc2 => ?_) (fun hc2 => ?_)
  · replace v1p := v1p.resolve_right (by omega)
    refine s_iload_n kx_142_16 rfl ?_
    rcases (by omega : what = 0 ∨ what = 1 ∨ what = 2 ∨ what = 3 ∨ what = 4 ∨ what = 5 ∨ (what < 0 ∨ 5 < what)) with hs3 | hs3 | hs3 | hs3 | hs3 | hs3 | hs3
    · refine s_tsw (t := 56) kx_142_17 (by decide) 0 hs3 (by decide) ?_
      refine s_aload_n kx_142_56 rfl ?_
      refine r_getR (k := 0) (f := 2) (k2 := 7) kx_142_57 kp_142_26 (tk_0 hT) kf_11_2 (by decide) (rq_0_2 hI) ?_
      refine r_getR (k := 7) (f := 0) (k2 := t) kx_142_60 kp_142_120 (tk_7 hT) kf_5_0 (by decide) h70 ?_
      refine r_getR (k := t) (f := 5) (k2 := (t + 2)) kx_142_63 kp_142_170 (tkt_0 hT ht) kf_9_5 (by decide) (rqt_5 hI ht) ?_
      refine s_iload_n kx_142_66 rfl ?_
      refine r_aldU (k := (t + 2)) kx_142_67 (tkt_2 hT ht) ⟨by omega, by omega⟩ (fun v4 v4e => ?_)
      have v4d : D 2 (room).toNat = v4 := ((hC).1 2 _ (by decide)).symm.trans v4e
      exact s_iret kx_142_68 (Or.inl kq_142) ⟨_, rfl, rfl, (by unfold pRo; (repeat' split) <;> omega)⟩
    · refine s_tsw (t := 69) kx_142_17 (by decide) 1 hs3 (by decide) ?_
      refine s_aload_n kx_142_69 rfl ?_
      refine r_getR (k := 0) (f := 2) (k2 := 7) kx_142_70 kp_142_26 (tk_0 hT) kf_11_2 (by decide) (rq_0_2 hI) ?_
      refine r_getR (k := 7) (f := 0) (k2 := t) kx_142_73 kp_142_120 (tk_7 hT) kf_5_0 (by decide) h70 ?_
      refine r_getR (k := t) (f := 6) (k2 := (t + 3)) kx_142_76 kp_142_173 (tkt_0 hT ht) kf_9_6 (by decide) (rqt_6 hI ht) ?_
      refine s_iload_n kx_142_79 rfl ?_
      refine r_aldU (k := (t + 3)) kx_142_80 (tkt_3 hT ht) ⟨by omega, by omega⟩ (fun v5 v5e => ?_)
      have v5d : D 3 (room).toNat = v5 := ((hC).1 3 _ (by decide)).symm.trans v5e
      exact s_iret kx_142_81 (Or.inl kq_142) ⟨_, rfl, rfl, (by unfold pRo; (repeat' split) <;> omega)⟩
    · refine s_tsw (t := 82) kx_142_17 (by decide) 2 hs3 (by decide) ?_
      refine s_aload_n kx_142_82 rfl ?_
      refine r_getR (k := 0) (f := 2) (k2 := 7) kx_142_83 kp_142_26 (tk_0 hT) kf_11_2 (by decide) (rq_0_2 hI) ?_
      refine s_iload_n kx_142_86 rfl ?_
      refine s_iconst (v := (-1)) kx_142_87 (by decide) ?_
      refine s_callV2 (k := 7) (s1 := 3) (s2 := 0) (as := [(0, (-1)), (0, room)]) (rest := []) kx_142_88 kp_142_176 (Or.inl rfl) rfl (tk_7 hT) ki_56 kcl_56 rfl rfl (by decide) (g_56 (d := d + 2) (room := room) (without := (-1)) hT hI ht h70 hC) (kF (fun v6 v6p => ?_))
      exact s_iret kx_142_91 (Or.inl kq_142) ⟨_, rfl, rfl, (by unfold pRo; (repeat' split) <;> omega)⟩
    · refine s_tsw (t := 92) kx_142_17 (by decide) 3 hs3 (by decide) ?_
      refine s_aload_n kx_142_92 rfl ?_
      refine r_getR (k := 0) (f := 2) (k2 := 7) kx_142_93 kp_142_26 (tk_0 hT) kf_11_2 (by decide) (rq_0_2 hI) ?_
      refine s_iload_n kx_142_96 rfl ?_
      refine s_callV2 (k := 7) (s1 := 2) (s2 := 0) (as := [(0, room)]) (rest := []) kx_142_97 kp_142_179 (Or.inl rfl) rfl (tk_7 hT) ki_53 kcl_53 rfl rfl (by decide) (g_53 (d := d + 2) (room := room) hT hI ht h70 hC) (kF (fun v7 v7p => ?_))
      exact s_iret kx_142_100 (Or.inl kq_142) ⟨_, rfl, rfl, (by unfold pRo; (repeat' split) <;> omega)⟩
    · refine s_tsw (t := 101) kx_142_17 (by decide) 4 hs3 (by decide) ?_
      refine s_aload_n kx_142_101 rfl ?_
      refine r_getR (k := 0) (f := 2) (k2 := 7) kx_142_102 kp_142_26 (tk_0 hT) kf_11_2 (by decide) (rq_0_2 hI) ?_
      refine s_iload_n kx_142_105 rfl ?_
      refine s_callV2 (k := 7) (s1 := 2) (s2 := 0) (as := [(0, room)]) (rest := []) kx_142_106 kp_142_182 (Or.inl rfl) rfl (tk_7 hT) ki_54 kcl_54 rfl rfl (by decide) (g_54 (d := d + 2) (room := room) hT hI ht h70 hC) (kF (fun v8 v8p => ?_))
      exact s_iret kx_142_109 (Or.inl kq_142) ⟨_, rfl, rfl, (by unfold pRo; (repeat' split) <;> omega)⟩
    · refine s_tsw (t := 110) kx_142_17 (by decide) 5 hs3 (by decide) ?_
      refine s_aload_n kx_142_110 rfl ?_
      refine r_getR (k := 0) (f := 2) (k2 := 7) kx_142_111 kp_142_26 (tk_0 hT) kf_11_2 (by decide) (rq_0_2 hI) ?_
      refine s_iload_n kx_142_114 rfl ?_
      refine s_callV2 (k := 7) (s1 := 2) (s2 := 0) (as := [(0, room)]) (rest := []) kx_142_115 kp_142_185 (Or.inl rfl) rfl (tk_7 hT) ki_55 kcl_55 rfl rfl (by decide) (g_55 (d := d) (room := room) hT hI ht h70 hC) (kF (fun v9 v9p => ?_))
      exact s_iret kx_142_118 (Or.inl kq_142) ⟨_, rfl, rfl, (by unfold pRo; (repeat' split) <;> omega)⟩
    · refine s_tswD (t := 119) kx_142_17 (by decide) hs3 (by decide) ?_
      refine s_iconst (v := (-1)) kx_142_119 (by decide) ?_
      exact s_iret kx_142_120 (Or.inl kq_142) ⟨_, rfl, rfl, (by unfold pRo; (repeat' split) <;> omega)⟩
  · replace v1p := v1p.resolve_left (by omega)
    refine s_iconst (v := (-1)) kx_142_14 (by decide) ?_
    exact s_iret kx_142_15 (Or.inl kq_142) ⟨_, rfl, rfl, (by unfold pRo; (repeat' split) <;> omega)⟩
theorem g_145 {xs : Nat → Int} {Ln d : Nat} {T : List cK} {M : cM} (hT : TT T) (hI : Rng M) {t : Nat} (ht : t = 8 ∨ t = 25) (h70 : M 7 0 = ((t : Nat) : Int)) {chair room : Int} {D S : cM} (hC : CR D S t M) : cC k_P xs Ln (d + 3) 145 [rf 0, (0, chair), (0, room)] (T, M) (qF T M 0 (fun v => v = pFi D S chair room)) := by
  show cP k_P xs Ln (d + 3) 145 0 [(0, rf 0), (1, (0, chair)), (2, (0, room))] [] (T, M) _
  have hD := hC.2.1
  have hDr := hD.rg
  have hSW := hC.2.2.2.2.1
  refine s_aload_n kx_145_0 rfl ?_
  refine r_getR (k := 0) (f := 2) (k2 := 7) kx_145_1 kp_145_26 (tk_0 hT) kf_11_2 (by decide) (rq_0_2 hI) ?_
  refine r_getR (k := 7) (f := 0) (k2 := t) kx_145_4 kp_145_120 (tk_7 hT) kf_5_0 (by decide) h70 ?_
  refine s_iload_n kx_145_7 rfl ?_
  refine s_callV2 (k := t) (s1 := 2) (s2 := 0) (as := [(0, chair)]) (rest := []) kx_145_8 kp_145_164 (Or.inl rfl) rfl (tkt_0 hT ht) ki_107 kcl_107 rfl rfl (by decide) (g_107 (d := d + 2) (person := chair) hT hI ht h70 hC) (kF (fun v1 v1p => ?_))
  refine s_if_eq (t := 40) kx_145_11 (by decide) (fun hc2 => ?_) (fun hc2 => ?_)
  · replace v1p := v1p.resolve_left (by omega)
    refine s_iconst (v := (-1)) kx_145_40 (by decide) ?_
    exact s_iret kx_145_41 (Or.inl kq_145) ⟨_, rfl, rfl, (by unfold pFi; (repeat' split) <;> omega)⟩
  · replace v1p := v1p.resolve_right (by omega)
    refine s_aload_n kx_145_14 rfl ?_
    refine r_getR (k := 0) (f := 2) (k2 := 7) kx_145_15 kp_145_26 (tk_0 hT) kf_11_2 (by decide) (rq_0_2 hI) ?_
    refine r_getR (k := 7) (f := 0) (k2 := t) kx_145_18 kp_145_120 (tk_7 hT) kf_5_0 (by decide) h70 ?_
    refine s_iload_n kx_145_21 rfl ?_
    refine s_callV2 (k := t) (s1 := 2) (s2 := 0) (as := [(0, room)]) (rest := []) kx_145_22 kp_145_153 (Or.inl rfl) rfl (tkt_0 hT ht) ki_106 kcl_106 rfl rfl (by decide) (g_106 (d := d + 2) (room := room) hT hI ht h70 hC) (kF (fun v3 v3p => ?_))
    refine s_if_eq (t := 40) kx_145_25 (by decide) (fun hc4 => ?_) (fun hc4 => ?_)
    · replace v3p := v3p.resolve_left (by omega)
      refine s_iconst (v := (-1)) kx_145_40 (by decide) ?_
      exact s_iret kx_145_41 (Or.inl kq_145) ⟨_, rfl, rfl, (by unfold pFi; (repeat' split) <;> omega)⟩
    · replace v3p := v3p.resolve_right (by omega)
      refine s_aload_n kx_145_28 rfl ?_
      refine r_getR (k := 0) (f := 2) (k2 := 7) kx_145_29 kp_145_26 (tk_0 hT) kf_11_2 (by decide) (rq_0_2 hI) ?_
      refine s_iload_n kx_145_32 rfl ?_
      refine s_callV2 (k := 7) (s1 := 2) (s2 := 0) (as := [(0, chair)]) (rest := []) kx_145_33 kp_145_194 (Or.inl rfl) rfl (tk_7 hT) ki_44 kcl_44 rfl rfl (by decide) (g_44 (d := d + 2) (chair := chair) hT hI ht h70 hC (by omega) (by omega)) (kF (fun v5 v5p => ?_))
      refine s_iload_n kx_145_36 rfl ?_
      refine s_icmp_ne (t := 42) kx_145_37 (by decide) (fun hc6 => ?_) (fun hc6 => ?_)
      · refine s_aload_n kx_145_42 rfl ?_
        refine r_getR (k := 0) (f := 2) (k2 := 7) kx_145_43 kp_145_26 (tk_0 hT) kf_11_2 (by decide) (rq_0_2 hI) ?_
        refine s_iload_n kx_145_46 rfl ?_
        refine s_iload_n kx_145_47 rfl ?_
        refine s_callV2 (k := 7) (s1 := 3) (s2 := 0) (as := [(0, chair), (0, room)]) (rest := []) kx_145_48 kp_145_224 (Or.inl rfl) rfl (tk_7 hT) ki_57 kcl_57 rfl rfl (by decide) (g_57 (d := d) (room := room) (chair := chair) hT hI ht h70 hC) (kF (fun v7 v7p => ?_))
        refine s_if_eq (t := 58) kx_145_51 (by decide) (fun hc8 => ?_) (fun hc8 => ?_)
        · replace v7p := v7p.resolve_left (by omega)
          refine s_iconst (v := 0) kx_145_58 (by decide) ?_
          exact s_iret kx_145_59 (Or.inl kq_145) ⟨_, rfl, rfl, (by unfold pFi; (repeat' split) <;> omega)⟩
        · replace v7p := v7p.resolve_right (by omega)
          refine s_iconst (v := 1) kx_145_54 (by decide) ?_
          refine s_goto (t := 59) kx_145_55 (by decide) ?_
          exact s_iret kx_145_59 (Or.inl kq_145) ⟨_, rfl, rfl, (by unfold pFi; (repeat' split) <;> omega)⟩
      · refine s_iconst (v := (-1)) kx_145_40 (by decide) ?_
        exact s_iret kx_145_41 (Or.inl kq_145) ⟨_, rfl, rfl, (by unfold pFi; (repeat' split) <;> omega)⟩
