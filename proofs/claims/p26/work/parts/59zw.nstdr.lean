theorem g_283 {xs : Nat → Int} {Ln d : Nat} {T : List cK} {M : cM} (hT : TT T) (hI : Rng M) {n : Int} {D S : cM} (hR : RR D S M) {s : Nat → Int} (hs : M 64 = s) (p0 : 0 ≤ n ∧ n ≤ 1600) : cC k_P xs Ln (d + 1) 283 [rf 63, (0, n)] (T, M) (qF T M 0 (fun v => (v = 1 ∧ pSo D s n = 1 ∧ 2 ≤ n ∧ n ≤ 16) ∨ (v = 0 ∧ pSo D s n = 0))) := by
  show cP k_P xs Ln (d + 1) 283 0 [(0, rf 63), (1, (0, n))] [] (T, M) _
  have hD := hR.2.1
  have hDr := hD.rg
  have hSW := hR.2.2.2.2
  refine s_iload_n kx_283_0 rfl ?_
  refine s_if_eq (t := 16) kx_283_1 (by decide) (fun hc1 => ?_) (fun hc1 => ?_)
  · refine s_iconst (v := 0) kx_283_16 (by decide) ?_
    exact s_iret kx_283_17 (Or.inr ⟨kq_283, by omega⟩) ⟨_, rfl, rfl, (Or.inr ⟨rfl, by unfold pSo; exact if_neg (by omega)⟩)⟩
  · refine s_iload_n kx_283_4 rfl ?_
    refine s_iconst (v := 2) kx_283_5 (by decide) ?_
    refine r_irem kx_283_6 (by omega) (by omega) (by omega) (by omega) ?_
    refine s_if_gt (t := 16) kx_283_7 (by decide) (fun hc2 => ?_) (fun hc2 => ?_)
    · refine s_iconst (v := 0) kx_283_16 (by decide) ?_
      exact s_iret kx_283_17 (Or.inr ⟨kq_283, by omega⟩) ⟨_, rfl, rfl, (Or.inr ⟨rfl, by unfold pSo; exact if_neg (by omega)⟩)⟩
    · refine s_iload_n kx_283_10 rfl ?_
      refine s_bipush (v := 16) kx_283_11 (by decide) ?_
      refine s_icmp_le (t := 18) kx_283_13 (by decide) (fun hc3 => ?_) (fun hc3 => ?_)
      · refine s_iconst (v := 0) kx_283_18 (by decide) ?_
        refine s_istore_n kx_283_19 km_283_2 rfl ?_
        have key5 : ∀ n6 : Nat, ∀ (x2_4 : Int), (0 ≤ x2_4) → (x2_4 ≤ 16) → (x2_4 % 2 = 0) → (x2_4 ≤ n) → (0 ≤ x2_4) → (pAll (cSo D s) (x2_4 / 2).toNat = 1) → (2147483647 - x2_4).toNat < n6 → cP k_P xs Ln (d + 1) 283 20 [(0, rf 63), (1, (0, n)), (2, (0, x2_4))] [] (T, M) (qF T M 0 (fun v => (v = 1 ∧ pSo D s n = 1 ∧ 2 ≤ n ∧ n ≤ 16) ∨ (v = 0 ∧ pSo D s n = 0))) := by
          intro n6
          induction n6 with
          | zero => intro x2_4 i7 i8 i9 i10 i11 i12 hm13; exact absurd hm13 (Nat.not_lt_zero _)
          | succ n6 ih14 =>
            intro x2_4 i7 i8 i9 i10 i11 i12 hm13
            refine s_iload_n kx_283_20 rfl ?_
            refine s_iload_n kx_283_21 rfl ?_
            refine s_icmp_ge (t := 76) kx_283_22 (by decide) (fun hc15 => ?_) (fun hc15 => ?_)
            · refine s_iconst (v := 1) kx_283_76 (by decide) ?_
              exact s_iret kx_283_77 (Or.inr ⟨kq_283, by omega⟩) ⟨_, rfl, rfl, (Or.inl ⟨rfl, by unfold pSo; rw [if_pos ⟨⟨by omega, by omega, by omega⟩, by rw [show n = x2_4 by omega]; exact i12⟩], by omega, by omega⟩)⟩
            · refine s_aload_n kx_283_25 rfl ?_
              refine s_aload_n kx_283_26 rfl ?_
              refine r_getR (k := 63) (f := 0) (k2 := 64) kx_283_27 kp_283_7 (tk_63 hT) kf_12_0 (by decide) (rq_63_0 hI) ?_
              refine s_iload_n kx_283_30 rfl ?_
              refine r_ald (k := 64) kx_283_31 (tk_64 hT) ⟨by omega, by omega⟩ (rg_64 hI) (fun v16 v16e v16a v16b => ?_)
              have v16r : s (x2_4).toNat = v16 := (congrFun hs (x2_4).toNat).symm.trans (v16e)
              have v16q2 : s (2 * (x2_4 / 2)).toNat = v16 := (congrArg s (by omega)).trans v16r
              refine s_callV2 (k := 63) (s1 := 2) (s2 := 0) (as := [(0, v16)]) (rest := []) kx_283_32 kp_283_508 (Or.inl rfl) rfl (tk_63 hT) ki_220 kcl_220 rfl rfl (by decide) (g_220 (d := d) (r := v16) hT hI hR) (kF (fun v17 v17p => ?_))
              refine s_if_ne (t := 40) kx_283_35 (by decide) (fun hc18 => ?_) (fun hc18 => ?_)
              · replace v17p := v17p.resolve_right (by omega)
                refine s_iconst (v := 0) kx_283_40 (by decide) ?_
                refine s_istore_n kx_283_41 km_283_3 rfl ?_
                have key20 : ∀ n21 : Nat, ∀ (x3_19 : Int), (0 ≤ x3_19) → (x3_19 ≤ 16) → (x3_19 % 2 = 0) → (x3_19 ≤ x2_4) → (0 ≤ x3_19) → (pAll (cNe s (s (2 * (x2_4 / 2)).toNat)) (x3_19 / 2).toNat = 1) → (2147483647 - x3_19).toNat < n21 → cP k_P xs Ln (d + 1) 283 42 [(0, rf 63), (1, (0, n)), (2, (0, x2_4)), (3, (0, x3_19))] [] (T, M) (qF T M 0 (fun v => (v = 1 ∧ pSo D s n = 1 ∧ 2 ≤ n ∧ n ≤ 16) ∨ (v = 0 ∧ pSo D s n = 0))) := by
                  intro n21
                  induction n21 with
                  | zero => intro x3_19 i22 i23 i24 i25 i26 i27 hm28; exact absurd hm28 (Nat.not_lt_zero _)
                  | succ n21 ih29 =>
                    intro x3_19 i22 i23 i24 i25 i26 i27 hm28
                    refine s_iload_n kx_283_42 rfl ?_
                    refine s_iload_n kx_283_43 rfl ?_
                    refine s_icmp_ge (t := 70) kx_283_44 (by decide) (fun hc30 => ?_) (fun hc30 => ?_)
                    · refine r_iinc kx_283_70 rfl km_283_2 (by decide) ⟨by omega, by omega⟩ rfl ?_
                      refine s_goto (t := 20) kx_283_73 (by decide) ?_
                      exact cP.wk (lS1 rfl (lS1 rfl (lS1 rfl lS0))) (ih14 (x2_4 + 2) (by omega) (by omega) (by omega) (by omega) (by omega) (by rw [show (x2_4 + 2) / 2 = x2_4 / 2 + 1 by omega]; exact pAll_S i12 (by omega) (by unfold cSo; exact if_pos ⟨by omega, by have h9 := i27; rw [show x3_19 = x2_4 by omega] at h9; exact h9⟩)) (by omega))
                    · refine s_aload_n kx_283_47 rfl ?_
                      refine r_getR (k := 63) (f := 0) (k2 := 64) kx_283_48 kp_283_7 (tk_63 hT) kf_12_0 (by decide) (rq_63_0 hI) ?_
                      refine s_iload_n kx_283_51 rfl ?_
                      refine r_ald (k := 64) kx_283_52 (tk_64 hT) ⟨by omega, by omega⟩ (rg_64 hI) (fun v31 v31e v31a v31b => ?_)
                      have v31r : s (x3_19).toNat = v31 := (congrFun hs (x3_19).toNat).symm.trans (v31e)
                      have v31q3 : s (2 * (x3_19 / 2)).toNat = v31 := (congrArg s (by omega)).trans v31r
                      refine s_aload_n kx_283_53 rfl ?_
                      refine r_getR (k := 63) (f := 0) (k2 := 64) kx_283_54 kp_283_7 (tk_63 hT) kf_12_0 (by decide) (rq_63_0 hI) ?_
                      refine s_iload_n kx_283_57 rfl ?_
                      refine r_aldK (k := 64) kx_283_58 (tk_64 hT) ⟨by omega, by omega⟩ v16e ?_
                      refine s_icmp_ne (t := 64) kx_283_59 (by decide) (fun hc32 => ?_) (fun hc32 => ?_)
                      · refine r_iinc kx_283_64 rfl km_283_3 (by decide) ⟨by omega, by omega⟩ rfl ?_
                        refine s_goto (t := 42) kx_283_67 (by decide) ?_
                        exact cP.wk (lS1 rfl (lS1 rfl (lS1 rfl (lS1 rfl lS0)))) (ih29 (x3_19 + 2) (by omega) (by omega) (by omega) (by omega) (by omega) (by rw [show (x3_19 + 2) / 2 = x3_19 / 2 + 1 by omega]; exact pAll_S i27 (by omega) (by unfold cNe; rw [v31q3]; exact if_neg (by rw [v16q2]; omega))) (by omega))
                      · have hn0 := pAll_0 (c := cNe s v16) (x := x3_19 / 2) (by omega) (by unfold cNe; rw [v31q3, if_pos (by omega)]; decide) (x2_4 / 2).toNat (by omega)
                        have hno : cSo D s (x2_4 / 2) ≠ 1 := by unfold cSo; rw [v16q2, if_neg (by omega)]; decide
                        refine s_iconst (v := 0) kx_283_62 (by decide) ?_
                        exact s_iret kx_283_63 (Or.inr ⟨kq_283, by omega⟩) ⟨_, rfl, rfl, (Or.inr ⟨rfl, by have h9 := pAll_0 (c := cSo D s) (x := x2_4 / 2) (by omega) hno (n / 2).toNat (by omega); unfold pSo; exact if_neg (by omega)⟩)⟩
                exact cP.wk (lS1 rfl (lS1 rfl (lS1 rfl (lS1 rfl lS0)))) (key20 _ 0 (by omega) (by omega) (by omega) (by omega) (by omega) rfl (Nat.lt_succ_self _))
              · replace v17p := v17p.resolve_left (by omega)
                have hno : cSo D s (x2_4 / 2) ≠ 1 := by unfold cSo; rw [v16q2, if_neg (by omega)]; decide
                refine s_iconst (v := 0) kx_283_38 (by decide) ?_
                exact s_iret kx_283_39 (Or.inr ⟨kq_283, by omega⟩) ⟨_, rfl, rfl, (Or.inr ⟨rfl, by have h9 := pAll_0 (c := cSo D s) (x := x2_4 / 2) (by omega) hno (n / 2).toNat (by omega); unfold pSo; exact if_neg (by omega)⟩)⟩
        exact cP.wk (lS1 rfl (lS1 rfl (lS1 rfl lS0))) (key5 _ 0 (by omega) (by omega) (by omega) (by omega) (by omega) rfl (Nat.lt_succ_self _))
      · refine s_iconst (v := 0) kx_283_16 (by decide) ?_
        exact s_iret kx_283_17 (Or.inr ⟨kq_283, by omega⟩) ⟨_, rfl, rfl, (Or.inr ⟨rfl, by unfold pSo; exact if_neg (by omega)⟩)⟩
def gR_284_l33 : List (Nat × Nat) := [(108, 99999), (109, 99999)]
def gR_284_l84 : List (Nat × Nat) := [(107, 99999), (110, 99999), (111, 99999), (112, 99999)]
def gR_284_l99 : List (Nat × Nat) := [(107, 99999), (110, 99999), (111, 99999), (112, 99999)]
def gR_284_m : List (Nat × Nat) := [(107, 99999), (108, 99999), (109, 99999), (110, 99999), (111, 99999), (112, 99999), (63, 1), (63, 70), (63, 72), (91, 99999)]
theorem n_284 {xs : Nat → Int} {Ln d : Nat} {T : List cK} {M : cM} (hT : TT T) (hI : Rng M) {D S : cM} (hR : RR D S M) {s : Nat → Int} (hs : M 64 = s) : cC k_P xs Ln (d + 3) 284 [rf 63] (T, M) (qW T M gR_284_m 0 (fun v M1 => (((pSo D s (M 63 1) = 0) ∧ RFn 5 (M 91) (M1 91)) ∨ ((pSo D s (M 63 1) = 1) ∧ R0n (M 91) (M1 91))) ∧ M1 63 1 = 0)) := by
  show cP k_P xs Ln (d + 3) 284 0 [(0, rf 63)] [] (T, M) _
  have hFm : Fr gR_284_m M M := Fr.refl
  have hD := hR.2.1
  have hDr := hD.rg
  have hSW := hR.2.2.2.2
  refine s_aload_n kx_284_0 rfl ?_
  refine r_getI (k := 63) (f := 1) kx_284_1 kp_284_13 (tk_63 hT) kf_12_1 (fun _ => rfl) (rg_63_1 hI) (fun v1 v1e v1a v1b => ?_)
  refine s_istore_n kx_284_4 km_284_1 rfl ?_
  refine s_aload_n kx_284_5 rfl ?_
  refine s_iconst (v := 0) kx_284_6 (by decide) ?_
  refine r_put (k := 63) (f := 1) kx_284_7 kp_284_13 (tk_63 hT) kf_12_1 rfl (by decide) (by decide) hI (ru_63_1 (by omega) (by omega)) (fun M2 hI2 u2 => ?_)
  have hFm2 := hFm.up u2 rfl
  refine s_aload_n kx_284_10 rfl ?_
  refine s_iload_n kx_284_11 rfl ?_
  refine s_callV2 (k := 63) (s1 := 2) (s2 := 0) (as := [(0, v1)]) (rest := []) kx_284_12 kp_284_603 (Or.inl rfl) rfl (tk_63 hT) ki_283 kcl_283 rfl rfl (by decide) (g_283 (d := d + 1) (n := v1) hT hI2 (RR.up hR u2 (by omega)) ((funext fun i => (u2.2 64 _ (by omega))).trans hs) (by omega)) (kF (fun v3 v3p => ?_))
  refine s_if_ne (t := 24) kx_284_15 (by decide) (fun hc4 => ?_) (fun hc4 => ?_)
  · replace v3p := v3p.resolve_right (by omega)
    refine s_aload_n kx_284_24 rfl ?_
    refine s_iload_n kx_284_25 rfl ?_
    refine s_iconst (v := 2) kx_284_26 (by decide) ?_
    refine r_idiv kx_284_27 (by omega) (by omega) (by omega) (by omega) ?_
    refine r_put (k := 63) (f := 72) kx_284_28 kp_284_231 (tk_63 hT) kf_12_72 rfl (by decide) (by decide) hI2 (ru_63_72 (by omega) (by omega)) (fun M5 hI5 u5 => ?_)
    have hFm5 := hFm2.up u5 rfl
    refine s_iconst (v := 0) kx_284_31 (by decide) ?_
    refine s_istore_n kx_284_32 km_284_2 rfl ?_
    have key8 : ∀ n9 : Nat, ∀ (x2_6 : Int), ∀ M7 : cM, Rng M7 → Fr gR_284_m M M7 → Fr gR_284_l33 M5 M7 → (0 ≤ x2_6) → (x2_6 ≤ 8) → (2147483647 - x2_6).toNat < n9 → cP k_P xs Ln (d + 3) 284 33 [(0, rf 63), (2, (0, x2_6))] [] (T, M7) (qW T M gR_284_m 0 (fun v M1 => (((pSo D s (M 63 1) = 0) ∧ RFn 5 (M 91) (M1 91)) ∨ ((pSo D s (M 63 1) = 1) ∧ R0n (M 91) (M1 91))) ∧ M1 63 1 = 0)) := by
      intro n9
      induction n9 with
      | zero => intro x2_6 M7 hI7 hFm7 fl7 i10 i11 hm12; exact absurd hm12 (Nat.not_lt_zero _)
      | succ n9 ih13 =>
        intro x2_6 M7 hI7 hFm7 fl7 i10 i11 hm12
        refine s_iload_n kx_284_33 rfl ?_
        refine s_aload_n kx_284_34 rfl ?_
        refine r_getK (k := 63) (f := 72) kx_284_35 kp_284_231 (tk_63 hT) kf_12_72 (fun _ => rfl) ((fl7 63 72 rfl).trans u5.1) ?_
        refine s_icmp_ge (t := 77) kx_284_38 (by decide) (fun hc14 => ?_) (fun hc14 => ?_)
        · refine s_aload_n kx_284_77 rfl ?_
          refine s_iconst (v := 1) kx_284_78 (by decide) ?_
          refine r_put (k := 63) (f := 70) kx_284_79 kp_284_225 (tk_63 hT) kf_12_70 rfl (by decide) (by decide) hI7 (ru_63_70 (by omega) (by omega)) (fun M15 hI15 u15 => ?_)
          have hFm15 := hFm7.up u15 rfl
          refine s_iconst (v := 0) kx_284_82 (by decide) ?_
          refine s_istore_n kx_284_83 km_284_2 rfl ?_
          have key18 : ∀ n19 : Nat, ∀ (x2_16 : Int), ∀ M17 : cM, Rng M17 → Fr gR_284_m M M17 → Fr gR_284_l84 M15 M17 → (0 ≤ x2_16) → (x2_16 ≤ 8) → (2147483647 - x2_16).toNat < n19 → cP k_P xs Ln (d + 3) 284 84 [(0, rf 63), (2, (0, x2_16))] [] (T, M17) (qW T M gR_284_m 0 (fun v M1 => (((pSo D s (M 63 1) = 0) ∧ RFn 5 (M 91) (M1 91)) ∨ ((pSo D s (M 63 1) = 1) ∧ R0n (M 91) (M1 91))) ∧ M1 63 1 = 0)) := by
            intro n19
            induction n19 with
            | zero => intro x2_16 M17 hI17 hFm17 fl17 i20 i21 hm22; exact absurd hm22 (Nat.not_lt_zero _)
            | succ n19 ih23 =>
              intro x2_16 M17 hI17 hFm17 fl17 i20 i21 hm22
              refine s_iload_n kx_284_84 rfl ?_
              refine s_aload_n kx_284_85 rfl ?_
              refine r_getR (k := 63) (f := 19) (k2 := 69) kx_284_86 kp_284_69 (tk_63 hT) kf_12_19 (by decide) (rq_63_19 hI17) ?_
              refine s_aload_n kx_284_89 rfl ?_
              refine r_getI (k := 63) (f := 14) kx_284_90 kp_284_54 (tk_63 hT) kf_12_14 (fun _ => rfl) (rg_63_14 hI17) (fun v24 v24e v24a v24b => ?_)
              have v24z : M 63 14 = v24 := (((fl17 63 14 rfl).trans ((u15.2 63 14 (by omega)).trans ((fl7 63 14 rfl).trans ((u5.2 63 14 (by omega)).trans (u2.2 63 14 (by omega))))))).symm.trans v24e
              refine r_ald (k := 69) kx_284_93 (tk_69 hT) ⟨by omega, by omega⟩ (rg_69 hI17) (fun v25 v25e v25a v25b => ?_)
              have v25d : D 0 1 = v25 := by have h9 := ((RR.fr (RR.up (RR.fr (RR.up (RR.up hR u2 (by omega)) u5 (by omega)) fl7 rfl) u15 (by omega)) fl17 rfl)).1.2.1; rw [v24e] at h9; exact h9.symm.trans v25e
              refine s_icmp_ge (t := 141) kx_284_94 (by decide) (fun hc26 => ?_) (fun hc26 => ?_)
              · refine s_aload_n kx_284_141 rfl ?_
                refine s_iconst (v := (-1)) kx_284_142 (by decide) ?_
                refine s_iconst (v := (-1)) kx_284_143 (by decide) ?_
                refine s_callV2 (k := 63) (s1 := 3) (s2 := 0) (as := [(0, (-1)), (0, (-1))]) (rest := []) kx_284_144 kp_284_606 (Or.inl rfl) rfl (tk_63 hT) ki_282 kcl_282 rfl rfl (by decide) (m_282 (d := d) (one := (-1)) (where_ := (-1)) hT hI17) (kW (fun v27 M28 hI28 fr28 v27p => ?_))
                have hFm28 := hFm17.call fr28 rfl
                exact s_iret kx_284_147 (Or.inl kq_284) ⟨_, _, rfl, rfl, hI28, hFm28, ⟨(Or.inr ⟨(by rw [v1e]; omega), (fun f => ((fr28 91 _ rfl).trans ((fl17 91 _ rfl).trans ((u15.2 91 _ (by omega)).trans ((fl7 91 _ rfl).trans ((u5.2 91 _ (by omega)).trans (u2.2 91 _ (by omega))))))))⟩), ((fr28 63 1 rfl).trans ((fl17 63 1 rfl).trans ((u15.2 63 1 (by omega)).trans ((fl7 63 1 rfl).trans ((u5.2 63 1 (by omega)).trans u2.1)))))⟩⟩
              · refine s_iconst (v := 0) kx_284_97 (by decide) ?_
                refine s_istore_n kx_284_98 km_284_3 rfl ?_
                have key31 : ∀ n32 : Nat, ∀ (x3_29 : Int), ∀ M30 : cM, Rng M30 → Fr gR_284_m M M30 → Fr gR_284_l84 M15 M30 → Fr gR_284_l99 M17 M30 → (0 ≤ x3_29) → (x3_29 ≤ 8) → (2147483647 - x3_29).toNat < n32 → cP k_P xs Ln (d + 3) 284 99 [(0, rf 63), (2, (0, x2_16)), (3, (0, x3_29))] [] (T, M30) (qW T M gR_284_m 0 (fun v M1 => (((pSo D s (M 63 1) = 0) ∧ RFn 5 (M 91) (M1 91)) ∨ ((pSo D s (M 63 1) = 1) ∧ R0n (M 91) (M1 91))) ∧ M1 63 1 = 0)) := by
                  intro n32
                  induction n32 with
                  | zero => intro x3_29 M30 hI30 hFm30 hFl8430 fl30 i33 i34 hm35; exact absurd hm35 (Nat.not_lt_zero _)
                  | succ n32 ih36 =>
                    intro x3_29 M30 hI30 hFm30 hFl8430 fl30 i33 i34 hm35
                    refine s_iload_n kx_284_99 rfl ?_
                    refine s_aload_n kx_284_100 rfl ?_
                    refine r_getR (k := 63) (f := 15) (k2 := 65) kx_284_101 kp_284_57 (tk_63 hT) kf_12_15 (by decide) (rq_63_15 hI30) ?_
                    refine s_aload_n kx_284_104 rfl ?_
                    refine r_getK (k := 63) (f := 14) kx_284_105 kp_284_54 (tk_63 hT) kf_12_14 (fun _ => rfl) ((fl30 63 14 rfl).trans v24e) ?_
                    refine r_ald (k := 65) kx_284_108 (tk_65 hT) ⟨by omega, by omega⟩ (rg_65 hI30) (fun v37 v37e v37a v37b => ?_)
                    have v37d : D 0 0 = v37 := by have h9 := ((RR.fr (RR.fr (RR.up (RR.fr (RR.up (RR.up hR u2 (by omega)) u5 (by omega)) fl7 rfl) u15 (by omega)) fl17 rfl) fl30 rfl)).1.1; rw [((fl30 63 14 rfl).trans v24e)] at h9; exact h9.symm.trans v37e
                    refine s_icmp_ge (t := 135) kx_284_109 (by decide) (fun hc38 => ?_) (fun hc38 => ?_)
                    · refine r_iinc kx_284_135 rfl km_284_2 (by decide) ⟨by omega, by omega⟩ rfl ?_
                      refine s_goto (t := 84) kx_284_138 (by decide) ?_
                      exact cP.wk (lS1 rfl (lS1 rfl lS0)) (ih23 (x2_16 + 1) M30 hI30 hFm30 hFl8430 (by omega) (by omega) (by omega))
                    · refine s_aload_n kx_284_112 rfl ?_
                      refine r_getR (k := 63) (f := 71) (k2 := 107) kx_284_113 kp_284_228 (tk_63 hT) kf_12_71 (by decide) (rq_63_71 hI30) ?_
                      refine s_bipush (v := 8) kx_284_116 (by decide) ?_
                      refine s_iload_n kx_284_118 rfl ?_
                      refine r_mul kx_284_119 ⟨by omega, by omega⟩ ?_
                      refine s_iload_n kx_284_120 rfl ?_
                      refine r_add kx_284_121 ⟨by omega, by omega⟩ ?_
                      refine s_aload_n kx_284_122 rfl ?_
                      refine s_iload_n kx_284_123 rfl ?_
                      refine s_iload_n kx_284_124 rfl ?_
                      refine s_callV2 (k := 63) (s1 := 3) (s2 := 2) (as := [(0, x3_29), (0, x2_16)]) (rest := [(0, ((8 * x2_16) + x3_29)), rf 107]) kx_284_125 kp_284_606 (Or.inl rfl) rfl (tk_63 hT) ki_282 kcl_282 rfl rfl (by decide) (m_282 (d := d) (one := x2_16) (where_ := x3_29) hT hI30) (kW (fun v39 M40 hI40 fr40 v39p => ?_))
                      have hFm40 := hFm30.call fr40 rfl
                      have hFl8440 := hFl8430.call fr40 rfl
                      have hFl9940 := fl30.call fr40 rfl
                      refine r_ast (k := 107) kx_284_128 (tk_107 hT) ⟨by omega, by omega⟩ hI40 ru_107 (fun M41 hI41 u41 => ?_)
                      have hFm41 := hFm40.up u41 rfl
                      have hFl8441 := hFl8440.up u41 rfl
                      have hFl9941 := hFl9940.up u41 rfl
                      refine r_iinc kx_284_129 rfl km_284_3 (by decide) ⟨by omega, by omega⟩ rfl ?_
                      refine s_goto (t := 99) kx_284_132 (by decide) ?_
                      exact cP.wk (lS1 rfl (lS1 rfl (lS1 rfl lS0))) (ih36 (x3_29 + 1) M41 hI41 hFm41 hFl8441 hFl9941 (by omega) (by omega) (by omega))
                exact cP.wk (lS1 rfl (lS1 rfl (lS1 rfl lS0))) (key31 _ 0 M17 hI17 hFm17 fl17 Fr.refl (by omega) (by omega) (Nat.lt_succ_self _))
          exact cP.wk (lS1 rfl (lS1 rfl lS0)) (key18 _ 0 M15 hI15 hFm15 Fr.refl (by omega) (by omega) (Nat.lt_succ_self _))
        · refine s_aload_n kx_284_41 rfl ?_
          refine r_getR (k := 63) (f := 73) (k2 := 108) kx_284_42 kp_284_234 (tk_63 hT) kf_12_73 (by decide) (rq_63_73 hI7) ?_
          refine s_iload_n kx_284_45 rfl ?_
          refine s_aload_n kx_284_46 rfl ?_
          refine r_getR (k := 63) (f := 0) (k2 := 64) kx_284_47 kp_284_7 (tk_63 hT) kf_12_0 (by decide) (rq_63_0 hI7) ?_
          refine s_iconst (v := 2) kx_284_50 (by decide) ?_
          refine s_iload_n kx_284_51 rfl ?_
          refine r_mul kx_284_52 ⟨by omega, by omega⟩ ?_
          refine r_ald (k := 64) kx_284_53 (tk_64 hT) ⟨by omega, by omega⟩ (rg_64 hI7) (fun v42 v42e v42a v42b => ?_)
          have v42r : s ((2 * x2_6)).toNat = v42 := (congrFun hs ((2 * x2_6)).toNat).symm.trans ((((fl7 64 _ rfl).trans ((u5.2 64 _ (by omega)).trans (u2.2 64 _ (by omega))))).symm.trans v42e)
          refine r_ast (k := 108) kx_284_54 (tk_108 hT) ⟨by omega, by omega⟩ hI7 (ru_108 (by omega) (by omega)) (fun M43 hI43 u43 => ?_)
          have hFm43 := hFm7.up u43 rfl
          have hFl3343 := fl7.up u43 rfl
          refine s_aload_n kx_284_55 rfl ?_
          refine r_getR (k := 63) (f := 74) (k2 := 109) kx_284_56 kp_284_237 (tk_63 hT) kf_12_74 (by decide) (rq_63_74 hI43) ?_
          refine s_iload_n kx_284_59 rfl ?_
          refine s_aload_n kx_284_60 rfl ?_
          refine r_getR (k := 63) (f := 0) (k2 := 64) kx_284_61 kp_284_7 (tk_63 hT) kf_12_0 (by decide) (rq_63_0 hI43) ?_
          refine s_iconst (v := 2) kx_284_64 (by decide) ?_
          refine s_iload_n kx_284_65 rfl ?_
          refine r_mul kx_284_66 ⟨by omega, by omega⟩ ?_
          refine s_iconst (v := 1) kx_284_67 (by decide) ?_
          refine r_add kx_284_68 ⟨by omega, by omega⟩ ?_
          refine r_ald (k := 64) kx_284_69 (tk_64 hT) ⟨by omega, by omega⟩ (rg_64 hI43) (fun v44 v44e v44a v44b => ?_)
          have v44r : s (((2 * x2_6) + 1)).toNat = v44 := (congrFun hs (((2 * x2_6) + 1)).toNat).symm.trans ((((u43.2 64 _ (by omega)).trans ((fl7 64 _ rfl).trans ((u5.2 64 _ (by omega)).trans (u2.2 64 _ (by omega)))))).symm.trans v44e)
          refine r_ast (k := 109) kx_284_70 (tk_109 hT) ⟨by omega, by omega⟩ hI43 (ru_109 (by omega) (by omega)) (fun M45 hI45 u45 => ?_)
          have hFm45 := hFm43.up u45 rfl
          have hFl3345 := hFl3343.up u45 rfl
          refine r_iinc kx_284_71 rfl km_284_2 (by decide) ⟨by omega, by omega⟩ rfl ?_
          refine s_goto (t := 33) kx_284_74 (by decide) ?_
          exact cP.wk (lS1 rfl (lS1 rfl lS0)) (ih13 (x2_6 + 1) M45 hI45 hFm45 hFl3345 (by omega) (by omega) (by omega))
    exact cP.wk (lS1 rfl (lS1 rfl lS0)) (key8 _ 0 M5 hI5 hFm5 Fr.refl (by omega) (by omega) (Nat.lt_succ_self _))
  · replace v3p := v3p.resolve_left (by omega)
    refine s_aload_n kx_284_18 rfl ?_
    refine s_iconst (v := 5) kx_284_19 (by decide) ?_
    refine s_callV2 (k := 63) (s1 := 2) (s2 := 0) (as := [(0, 5)]) (rest := []) kx_284_20 kp_284_255 (Or.inl rfl) rfl (tk_63 hT) ki_218 kcl_218 rfl rfl (by decide) (n_218 (d := d + 2) (kind := 5) hT hI2 (by omega)) (kW (fun v46 M47 hI47 fr47 v46p => ?_))
    have hFm47 := hFm2.call fr47 rfl
    exact s_iret kx_284_23 (Or.inl kq_284) ⟨_, _, rfl, rfl, hI47, hFm47, ⟨(Or.inl ⟨(by rw [v1e]; omega), ((v46p.2.2).of (fun f => (u2.2 91 _ (by omega))) (fun f => rfl))⟩), ((fr47 63 1 rfl).trans u2.1)⟩⟩
