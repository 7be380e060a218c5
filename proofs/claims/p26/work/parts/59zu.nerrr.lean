theorem g_276 {xs : Nat → Int} {Ln d : Nat} {T : List cK} {M : cM} (hT : TT T) (hI : Rng M) {p n : Int} {D S : cM} (hR : RR D S M) {s : Nat → Int} (hs : M 64 = s) (p0 : 0 ≤ n ∧ n ≤ 1600) : cC k_P xs Ln (d + 1) 276 [rf 63, (0, p), (0, n)] (T, M) (qF T M 0 (fun v => (v = 1 ∧ pEt D S s n p = 1 ∧ 0 ≤ p ∧ p ≤ 7 ∧ 2 ≤ n ∧ n ≤ 24 ∧ n % 2 = 0 ∧ ∀ q : Int, 0 ≤ q → 2 * q < n → 0 ≤ M 64 (2 * q).toNat ∧ M 64 (2 * q).toNat ≤ 7) ∨ (v = 0 ∧ pEt D S s n p = 0))) := by
  show cP k_P xs Ln (d + 1) 276 0 [(0, rf 63), (1, (0, p)), (2, (0, n))] [] (T, M) _
  have hD := hR.2.1
  have hDr := hD.rg
  have hSW := hR.2.2.2.2
  refine s_aload_n kx_276_0 rfl ?_
  refine s_iload_n kx_276_1 rfl ?_
  refine s_callV2 (k := 63) (s1 := 2) (s2 := 0) (as := [(0, p)]) (rest := []) kx_276_2 kp_276_514 (Or.inl rfl) rfl (tk_63 hT) ki_221 kcl_221 rfl rfl (by decide) (g_221 (d := d) (p := p) hT hI hR) (kF (fun v1 v1p => ?_))
  refine s_if_eq (t := 24) kx_276_5 (by decide) (fun hc2 => ?_) (fun hc2 => ?_)
  · replace v1p := v1p.resolve_left (by omega)
    refine s_iconst (v := 0) kx_276_24 (by decide) ?_
    exact s_iret kx_276_25 (Or.inr ⟨kq_276, by omega⟩) ⟨_, rfl, rfl, (Or.inr ⟨rfl, by unfold pEt; exact if_neg (by omega)⟩)⟩
  · replace v1p := v1p.resolve_right (by omega)
    refine s_iload_n kx_276_8 rfl ?_
    refine s_if_eq (t := 24) kx_276_9 (by decide) (fun hc3 => ?_) (fun hc3 => ?_)
    · refine s_iconst (v := 0) kx_276_24 (by decide) ?_
      exact s_iret kx_276_25 (Or.inr ⟨kq_276, by omega⟩) ⟨_, rfl, rfl, (Or.inr ⟨rfl, by unfold pEt; exact if_neg (by omega)⟩)⟩
    · refine s_iload_n kx_276_12 rfl ?_
      refine s_iconst (v := 2) kx_276_13 (by decide) ?_
      refine r_irem kx_276_14 (by omega) (by omega) (by omega) (by omega) ?_
      refine s_if_gt (t := 24) kx_276_15 (by decide) (fun hc4 => ?_) (fun hc4 => ?_)
      · refine s_iconst (v := 0) kx_276_24 (by decide) ?_
        exact s_iret kx_276_25 (Or.inr ⟨kq_276, by omega⟩) ⟨_, rfl, rfl, (Or.inr ⟨rfl, by unfold pEt; exact if_neg (by omega)⟩)⟩
      · refine s_iload_n kx_276_18 rfl ?_
        refine s_bipush (v := 24) kx_276_19 (by decide) ?_
        refine s_icmp_le (t := 26) kx_276_21 (by decide) (fun hc5 => ?_) (fun hc5 => ?_)
        · refine s_aload_n kx_276_26 rfl ?_
          refine r_getR (k := 63) (f := 48) (k2 := 92) kx_276_27 kp_276_159 (tk_63 hT) kf_12_48 (by decide) (rq_63_48 hI) ?_
          refine s_iload_n kx_276_30 rfl ?_
          refine r_ald (k := 92) kx_276_31 (tk_92 hT) ⟨by omega, by omega⟩ (rg_92 hI (by omega)) (fun v6 v6e v6a v6b => ?_)
          have v6d := (RR.rm hR (p := p) ⟨by omega, by omega⟩ (by omega)).symm.trans v6e
          have v6w := (hR).2.2.2.2.at (p := p) ⟨by omega, by omega⟩
          refine s_istore_n kx_276_32 km_276_3 rfl ?_
          refine s_iconst (v := 0) kx_276_33 (by decide) ?_
          refine s_istore kx_276_34 km_276_4 rfl ?_
          have key9 : ∀ n10 : Nat, ∀ (x3_7 x4_8 : Int), (0 ≤ x3_7) → (x3_7 ≤ 7) → (0 ≤ x4_8) → (x4_8 ≤ 24) → (x4_8 % 2 = 0) → (x3_7 < D 0 0) → (x4_8 ≤ n) → (x3_7 = pEa S s p (x4_8 / 2)) → (pAll (cEr D S s p) (x4_8 / 2).toNat = 1) → (0 ≤ x4_8) → (∀ q : Int, 0 ≤ q → 2 * q < x4_8 → 0 ≤ M 64 (2 * q).toNat ∧ M 64 (2 * q).toNat ≤ 7) → (2147483647 - x4_8).toNat < n10 → cP k_P xs Ln (d + 1) 276 36 [(0, rf 63), (2, (0, n)), (3, (0, x3_7)), (4, (0, x4_8))] [] (T, M) (qF T M 0 (fun v => (v = 1 ∧ pEt D S s n p = 1 ∧ 0 ≤ p ∧ p ≤ 7 ∧ 2 ≤ n ∧ n ≤ 24 ∧ n % 2 = 0 ∧ ∀ q : Int, 0 ≤ q → 2 * q < n → 0 ≤ M 64 (2 * q).toNat ∧ M 64 (2 * q).toNat ≤ 7) ∨ (v = 0 ∧ pEt D S s n p = 0))) := by
            intro n10
            induction n10 with
            | zero => intro x3_7 x4_8 i11 i12 i13 i14 i15 i16 i17 i18 i19 i20 i21 hm22; exact absurd hm22 (Nat.not_lt_zero _)
            | succ n10 ih23 =>
              intro x3_7 x4_8 i11 i12 i13 i14 i15 i16 i17 i18 i19 i20 i21 hm22
              refine s_iload kx_276_36 rfl ?_
              refine s_iload_n kx_276_38 rfl ?_
              refine s_icmp_ge (t := 100) kx_276_39 (by decide) (fun hc24 => ?_) (fun hc24 => ?_)
              · refine s_iconst (v := 1) kx_276_100 (by decide) ?_
                exact s_iret kx_276_101 (Or.inr ⟨kq_276, by omega⟩) ⟨_, rfl, rfl, (Or.inl ⟨rfl, by unfold pEt; rw [if_pos ⟨⟨by omega, by omega⟩, ⟨by omega, by omega, by omega⟩, by rw [show n = x4_8 by omega]; exact i19⟩], by omega, by omega, by omega, by omega, by omega, fun q a b => i21 q a (by omega)⟩)⟩
              · refine s_aload_n kx_276_42 rfl ?_
                refine s_aload_n kx_276_43 rfl ?_
                refine r_getR (k := 63) (f := 0) (k2 := 64) kx_276_44 kp_276_7 (tk_63 hT) kf_12_0 (by decide) (rq_63_0 hI) ?_
                refine s_iload kx_276_47 rfl ?_
                refine r_ald (k := 64) kx_276_49 (tk_64 hT) ⟨by omega, by omega⟩ (rg_64 hI) (fun v25 v25e v25a v25b => ?_)
                have v25r : s (x4_8).toNat = v25 := (congrFun hs (x4_8).toNat).symm.trans (v25e)
                have v25q : s (2 * (x4_8 / 2)).toNat = v25 := (congrArg s (by omega)).trans v25r
                refine s_callV2 (k := 63) (s1 := 2) (s2 := 0) (as := [(0, v25)]) (rest := []) kx_276_50 kp_276_508 (Or.inl rfl) rfl (tk_63 hT) ki_220 kcl_220 rfl rfl (by decide) (g_220 (d := d) (r := v25) hT hI hR) (kF (fun v26 v26p => ?_))
                refine s_if_eq (t := 84) kx_276_53 (by decide) (fun hc27 => ?_) (fun hc27 => ?_)
                · replace v26p := v26p.resolve_left (by omega)
                  have hno : (¬ (0 ≤ s (2 * (x4_8 / 2)).toNat ∧ s (2 * (x4_8 / 2)).toNat < D 0 0)) → pWy D x3_7 (s (2 * (x4_8 / 2)).toNat) = 0 := pWy_0
                  have hno2 : cEr D S s p (x4_8 / 2) ≠ 1 := by
                    unfold cEr; rw [← i18, if_neg]; decide
                    intro z; by_cases zz : (0 ≤ s (2 * (x4_8 / 2)).toNat ∧ s (2 * (x4_8 / 2)).toNat < D 0 0)
                    · omega
                    · have := hno zz; omega
                  refine s_iconst (v := 0) kx_276_84 (by decide) ?_
                  exact s_iret kx_276_85 (Or.inr ⟨kq_276, by omega⟩) ⟨_, rfl, rfl, (Or.inr ⟨rfl, by have h9 := pAll_0 (c := cEr D S s p) (x := x4_8 / 2) (by omega) hno2 (n / 2).toNat (by omega); unfold pEt; exact if_neg (by omega)⟩)⟩
                · replace v26p := v26p.resolve_right (by omega)
                  refine s_aload_n kx_276_56 rfl ?_
                  refine r_getR (k := 63) (f := 0) (k2 := 64) kx_276_57 kp_276_7 (tk_63 hT) kf_12_0 (by decide) (rq_63_0 hI) ?_
                  refine s_iload kx_276_60 rfl ?_
                  refine s_iconst (v := 1) kx_276_62 (by decide) ?_
                  refine r_add kx_276_63 ⟨by omega, by omega⟩ ?_
                  refine r_ald (k := 64) kx_276_64 (tk_64 hT) ⟨by omega, by omega⟩ (rg_64 hI) (fun v28 v28e v28a v28b => ?_)
                  have v28r : s ((x4_8 + 1)).toNat = v28 := (congrFun hs ((x4_8 + 1)).toNat).symm.trans (v28e)
                  have v28q : s (2 * (x4_8 / 2) + 1).toNat = v28 := (congrArg s (by omega)).trans v28r
                  refine s_iconst (v := 1) kx_276_65 (by decide) ?_
                  refine s_icmp_gt (t := 84) kx_276_66 (by decide) (fun hc29 => ?_) (fun hc29 => ?_)
                  · have hno : (¬ (0 ≤ s (2 * (x4_8 / 2)).toNat ∧ s (2 * (x4_8 / 2)).toNat < D 0 0)) → pWy D x3_7 (s (2 * (x4_8 / 2)).toNat) = 0 := pWy_0
                    have hno2 : cEr D S s p (x4_8 / 2) ≠ 1 := by
                      unfold cEr; rw [← i18, if_neg]; decide
                      intro z; by_cases zz : (0 ≤ s (2 * (x4_8 / 2)).toNat ∧ s (2 * (x4_8 / 2)).toNat < D 0 0)
                      · omega
                      · have := hno zz; omega
                    refine s_iconst (v := 0) kx_276_84 (by decide) ?_
                    exact s_iret kx_276_85 (Or.inr ⟨kq_276, by omega⟩) ⟨_, rfl, rfl, (Or.inr ⟨rfl, by have h9 := pAll_0 (c := cEr D S s p) (x := x4_8 / 2) (by omega) hno2 (n / 2).toNat (by omega); unfold pEt; exact if_neg (by omega)⟩)⟩
                  · refine s_aload_n kx_276_69 rfl ?_
                    refine s_iload_n kx_276_70 rfl ?_
                    refine s_aload_n kx_276_71 rfl ?_
                    refine r_getR (k := 63) (f := 0) (k2 := 64) kx_276_72 kp_276_7 (tk_63 hT) kf_12_0 (by decide) (rq_63_0 hI) ?_
                    refine s_iload kx_276_75 rfl ?_
                    refine r_aldK (k := 64) kx_276_77 (tk_64 hT) ⟨by omega, by omega⟩ v25e ?_
                    refine s_callV2 (k := 63) (s1 := 3) (s2 := 0) (as := [(0, v25), (0, x3_7)]) (rest := []) kx_276_78 kp_276_511 (Or.inl rfl) rfl (tk_63 hT) ki_245 kcl_245 rfl rfl (by decide) (g_245 (d := d) (a := x3_7) (b := v25) hT hI hR (by omega) (by omega) (by omega) (by omega)) (kF (fun v30 v30p => ?_))
                    have v30q := v30p.2.2
                    rw [← v25q] at v30q
                    refine s_if_ne (t := 86) kx_276_81 (by decide) (fun hc31 => ?_) (fun hc31 => ?_)
                    · refine s_aload_n kx_276_86 rfl ?_
                      refine r_getR (k := 63) (f := 0) (k2 := 64) kx_276_87 kp_276_7 (tk_63 hT) kf_12_0 (by decide) (rq_63_0 hI) ?_
                      refine s_iload kx_276_90 rfl ?_
                      refine r_aldK (k := 64) kx_276_92 (tk_64 hT) ⟨by omega, by omega⟩ v25e ?_
                      refine s_istore_n kx_276_93 km_276_3 rfl ?_
                      refine r_iinc kx_276_94 rfl km_276_4 (by decide) ⟨by omega, by omega⟩ rfl ?_
                      refine s_goto (t := 36) kx_276_97 (by decide) ?_
                      exact cP.wk (lS1 rfl (lS1 rfl (lS1 rfl (lS1 rfl lS0)))) (ih23 v25 (x4_8 + 2) (by omega) (by omega) (by omega) (by omega) (by omega) (by omega) (by omega) (by rw [show (x4_8 + 2) / 2 = x4_8 / 2 + 1 by omega, pEa_S (by omega)]; exact v25q.symm) (by rw [show (x4_8 + 2) / 2 = x4_8 / 2 + 1 by omega]; exact pAll_S i19 (by omega) (by unfold cEr; rw [← i18]; exact if_pos (by omega))) (by omega) (fun q a b => if e : 2 * q = x4_8 then (by rw [e, hs, v25r]; omega) else i21 q a (by omega)) (by omega))
                    · have hno : (¬ (0 ≤ s (2 * (x4_8 / 2)).toNat ∧ s (2 * (x4_8 / 2)).toNat < D 0 0)) → pWy D x3_7 (s (2 * (x4_8 / 2)).toNat) = 0 := pWy_0
                      have hno2 : cEr D S s p (x4_8 / 2) ≠ 1 := by
                        unfold cEr; rw [← i18, if_neg]; decide
                        intro z; by_cases zz : (0 ≤ s (2 * (x4_8 / 2)).toNat ∧ s (2 * (x4_8 / 2)).toNat < D 0 0)
                        · omega
                        · have := hno zz; omega
                      refine s_iconst (v := 0) kx_276_84 (by decide) ?_
                      exact s_iret kx_276_85 (Or.inr ⟨kq_276, by omega⟩) ⟨_, rfl, rfl, (Or.inr ⟨rfl, by have h9 := pAll_0 (c := cEr D S s p) (x := x4_8 / 2) (by omega) hno2 (n / 2).toNat (by omega); unfold pEt; exact if_neg (by omega)⟩)⟩
          exact cP.wk (lS1 rfl (lS1 rfl (lS1 rfl (lS1 rfl lS0)))) (key9 _ v6 0 (by omega) (by omega) (by omega) (by omega) (by omega) (by omega) (by omega) (by show _ = (if (0 : Int) / 2 = 0 then S 0 p.toNat else _); rw [if_pos (by decide)]; omega) rfl (by omega) (fun q a b => absurd b (by omega)) (Nat.lt_succ_self _))
        · refine s_iconst (v := 0) kx_276_24 (by decide) ?_
          exact s_iret kx_276_25 (Or.inr ⟨kq_276, by omega⟩) ⟨_, rfl, rfl, (Or.inr ⟨rfl, by unfold pEt; exact if_neg (by omega)⟩)⟩
def gR_277_l106 : List (Nat × Nat) := [(106, 99999)]
def gR_277_l40 : List (Nat × Nat) := [(102, 99999), (63, 62), (63, 63), (63, 64)]
def gR_277_m : List (Nat × Nat) := [(102, 99999), (106, 99999), (63, 1), (63, 62), (63, 63), (63, 64), (63, 68), (91, 99999)]
def gR_277_j92 : List (Nat × Nat) := []
theorem n_277 {xs : Nat → Int} {Ln d : Nat} {T : List cK} {M : cM} (hT : TT T) (hI : Rng M) {p : Int} {D S : cM} (hR : RR D S M) (hS : Sg M) {s : Nat → Int} (hs : M 64 = s) : cC k_P xs Ln (d + 5) 277 [rf 63, (0, p)] (T, M) (qW T M gR_277_m 0 (fun v M1 => (((pEt D S s (M 63 1) p = 0) ∧ RFn 5 (M 91) (M1 91)) ∨ ((pEt D S s (M 63 1) p = 1) ∧ R0n (M 91) (M1 91))) ∧ M1 63 1 = 0)) := by
  show cP k_P xs Ln (d + 5) 277 0 [(0, rf 63), (1, (0, p))] [] (T, M) _
  have hFm : Fr gR_277_m M M := Fr.refl
  have hD := hR.2.1
  have hDr := hD.rg
  have hSW := hR.2.2.2.2
  refine s_aload_n kx_277_0 rfl ?_
  refine r_getI (k := 63) (f := 1) kx_277_1 kp_277_13 (tk_63 hT) kf_12_1 (fun _ => rfl) (rg_63_1 hI) (fun v1 v1e v1a v1b => ?_)
  refine s_istore_n kx_277_4 km_277_2 rfl ?_
  refine s_aload_n kx_277_5 rfl ?_
  refine s_iconst (v := 0) kx_277_6 (by decide) ?_
  refine r_put (k := 63) (f := 1) kx_277_7 kp_277_13 (tk_63 hT) kf_12_1 rfl (by decide) (by decide) hI (ru_63_1 (by omega) (by omega)) (fun M2 hI2 u2 => ?_)
  have hFm2 := hFm.up u2 rfl
  refine s_aload_n kx_277_10 rfl ?_
  refine s_iload_n kx_277_11 rfl ?_
  refine s_iload_n kx_277_12 rfl ?_
  refine s_callV2 (k := 63) (s1 := 3) (s2 := 0) (as := [(0, v1), (0, p)]) (rest := []) kx_277_13 kp_277_588 (Or.inl rfl) rfl (tk_63 hT) ki_276 kcl_276 rfl rfl (by decide) (g_276 (d := d + 3) (p := p) (n := v1) hT hI2 (RR.up hR u2 (by omega)) ((funext fun i => (u2.2 64 _ (by omega))).trans hs) (by omega)) (kF (fun v3 v3p => ?_))
  refine s_if_ne (t := 25) kx_277_16 (by decide) (fun hc4 => ?_) (fun hc4 => ?_)
  · replace v3p := v3p.resolve_right (by omega)
    refine s_iload_n kx_277_25 rfl ?_
    refine s_iconst (v := 2) kx_277_26 (by decide) ?_
    refine r_idiv kx_277_27 (by omega) (by omega) (by omega) (by omega) ?_
    refine s_istore_n kx_277_28 km_277_3 rfl ?_
    refine s_iconst (v := (-1)) kx_277_29 (by decide) ?_
    refine s_istore kx_277_30 km_277_4 rfl ?_
    refine s_ldc_w kx_277_32 kp_277_571 ?_
    refine s_istore kx_277_35 km_277_5 rfl ?_
    refine s_iconst (v := 0) kx_277_37 (by decide) ?_
    refine s_istore kx_277_38 km_277_6 rfl ?_
    have key9 : ∀ n10 : Nat, ∀ (x4_5 x5_6 x6_7 : Int), ∀ M8 : cM, Rng M8 → Fr gR_277_m M M8 → Fr gR_277_l40 M2 M8 → ((-2147483648) ≤ x4_5) → (x4_5 ≤ 2147483647) → (0 ≤ x6_7) → (2147483647 - x6_7).toNat < n10 → cP k_P xs Ln (d + 5) 277 40 [(0, rf 63), (1, (0, p)), (3, (0, (v1 / 2))), (4, (0, x4_5)), (5, (0, x5_6)), (6, (0, x6_7))] [] (T, M8) (qW T M gR_277_m 0 (fun v M1 => (((pEt D S s (M 63 1) p = 0) ∧ RFn 5 (M 91) (M1 91)) ∨ ((pEt D S s (M 63 1) p = 1) ∧ R0n (M 91) (M1 91))) ∧ M1 63 1 = 0)) := by
      intro n10
      induction n10 with
      | zero => intro x4_5 x5_6 x6_7 M8 hI8 hFm8 fl8 i11 i12 i13 hm14; exact absurd hm14 (Nat.not_lt_zero _)
      | succ n10 ih15 =>
        intro x4_5 x5_6 x6_7 M8 hI8 hFm8 fl8 i11 i12 i13 hm14
        refine s_iload kx_277_40 rfl ?_
        refine s_iconst (v := 1) kx_277_42 (by decide) ?_
        refine s_iload_n kx_277_43 rfl ?_
        refine r_ishlR kx_277_44 (fun v16 v16a v16b => ?_)
        refine s_icmp_ge (t := 88) kx_277_45 (by decide) (fun hc17 => ?_) (fun hc17 => ?_)
        · refine s_aload_n kx_277_88 rfl ?_
          refine s_iload kx_277_89 rfl ?_
          refine s_iconst (v := (-1)) kx_277_91 (by decide) ?_
          have jn22 : ∀ (y21 : Int), (0 ≤ y21) → (y21 ≤ 800) → (y21 ≤ 12) → cP k_P xs Ln (d + 5) 277 100 [(0, rf 63), (3, (0, (v1 / 2))), (4, (0, x4_5)), (5, (0, x5_6))] [(0, y21), rf 63] (T, M8) (qW T M gR_277_m 0 (fun v M1 => (((pEt D S s (M 63 1) p = 0) ∧ RFn 5 (M 91) (M1 91)) ∨ ((pEt D S s (M 63 1) p = 1) ∧ R0n (M 91) (M1 91))) ∧ M1 63 1 = 0)) := by
            intro y21 a23 a24 a25
            refine r_put (k := 63) (f := 68) kx_277_100 kp_277_219 (tk_63 hT) kf_12_68 rfl (by decide) (by decide) hI8 (ru_63_68 (by omega) (by omega)) (fun M26 hI26 u26 => ?_)
            have hFm26 := hFm8.up u26 rfl
            refine s_iconst (v := 0) kx_277_103 (by decide) ?_
            refine s_istore kx_277_104 km_277_6 rfl ?_
            have key29 : ∀ n30 : Nat, ∀ (x6_27 : Int), ∀ M28 : cM, Rng M28 → Fr gR_277_m M M28 → Fr gR_277_l106 M26 M28 → (0 ≤ x6_27) → (2147483647 - x6_27).toNat < n30 → cP k_P xs Ln (d + 5) 277 106 [(0, rf 63), (3, (0, (v1 / 2))), (4, (0, x4_5)), (5, (0, x5_6)), (6, (0, x6_27))] [] (T, M28) (qW T M gR_277_m 0 (fun v M1 => (((pEt D S s (M 63 1) p = 0) ∧ RFn 5 (M 91) (M1 91)) ∨ ((pEt D S s (M 63 1) p = 1) ∧ R0n (M 91) (M1 91))) ∧ M1 63 1 = 0)) := by
              intro n30
              induction n30 with
              | zero => intro x6_27 M28 hI28 hFm28 fl28 i31 hm32; exact absurd hm32 (Nat.not_lt_zero _)
              | succ n30 ih33 =>
                intro x6_27 M28 hI28 hFm28 fl28 i31 hm32
                refine s_iload kx_277_106 rfl ?_
                refine s_aload_n kx_277_108 rfl ?_
                refine r_getK (k := 63) (f := 68) kx_277_109 kp_277_219 (tk_63 hT) kf_12_68 (fun _ => rfl) ((fl28 63 68 rfl).trans u26.1) ?_
                refine s_icmp_ge (t := 147) kx_277_112 (by decide) (fun hc34 => ?_) (fun hc34 => ?_)
                · refine s_iload kx_277_147 rfl ?_
                  refine s_iconst (v := (-1)) kx_277_149 (by decide) ?_
                  refine s_icmp_ne (t := 157) kx_277_150 (by decide) (fun hc35 => ?_) (fun hc35 => ?_)
                  · refine s_iload kx_277_157 rfl ?_
                    exact s_iret kx_277_159 (Or.inl kq_277) ⟨_, _, rfl, rfl, hI28, hFm28, ⟨(Or.inr ⟨(by rw [v1e]; omega), (fun f => ((fl28 91 _ rfl).trans ((u26.2 91 _ (by omega)).trans ((fl8 91 _ rfl).trans (u2.2 91 _ (by omega))))))⟩), ((fl28 63 1 rfl).trans ((u26.2 63 1 (by omega)).trans ((fl8 63 1 rfl).trans u2.1)))⟩⟩
                  · refine s_iconst (v := (-1)) kx_277_153 (by decide) ?_
                    refine s_goto (t := 159) kx_277_154 (by decide) ?_
                    exact s_iret kx_277_159 (Or.inl kq_277) ⟨_, _, rfl, rfl, hI28, hFm28, ⟨(Or.inr ⟨(by rw [v1e]; omega), (fun f => ((fl28 91 _ rfl).trans ((u26.2 91 _ (by omega)).trans ((fl8 91 _ rfl).trans (u2.2 91 _ (by omega))))))⟩), ((fl28 63 1 rfl).trans ((u26.2 63 1 (by omega)).trans ((fl8 63 1 rfl).trans u2.1)))⟩⟩
                · refine s_aload_n kx_277_115 rfl ?_
                  refine r_getR (k := 63) (f := 69) (k2 := 106) kx_277_116 kp_277_222 (tk_63 hT) kf_12_69 (by decide) (rq_63_69 hI28) ?_
                  refine s_iload kx_277_119 rfl ?_
                  refine s_iload kx_277_121 rfl ?_
                  refine s_iload_n kx_277_123 rfl ?_
                  refine s_iconst (v := 1) kx_277_124 (by decide) ?_
                  refine r_sub kx_277_125 ⟨by omega, by omega⟩ ?_
                  refine s_iload kx_277_126 rfl ?_
                  refine r_sub kx_277_128 ⟨by omega, by omega⟩ ?_
                  refine s_callS2 (s1 := 2) (s2 := 2) (as := [(0, (((v1 / 2) - 1) - x6_27)), (0, x4_5)]) (rest := [(0, x6_27), rf 106]) kx_277_129 kp_277_585 rfl kcl_222 rfl rfl (by decide) (g_222 (d := d + 4) (set := x4_5) (k := (((v1 / 2) - 1) - x6_27)) hT hI28) (kF (fun v36 v36p => ?_))
                  refine s_if_eq (t := 139) kx_277_132 (by decide) (fun hc37 => ?_) (fun hc37 => ?_)
                  · replace v36p := v36p.resolve_left (by omega)
                    refine s_iconst (v := 0) kx_277_139 (by decide) ?_
                    refine r_ast (k := 106) kx_277_140 (tk_106 hT) ⟨by omega, by omega⟩ hI28 ru_106 (fun M38 hI38 u38 => ?_)
                    have hFm38 := hFm28.up u38 rfl
                    have hFl10638 := fl28.up u38 rfl
                    refine r_iinc kx_277_141 rfl km_277_6 (by decide) ⟨by omega, by omega⟩ rfl ?_
                    refine s_goto (t := 106) kx_277_144 (by decide) ?_
                    exact cP.wk (lS1 rfl (lS1 rfl (lS1 rfl (lS1 rfl (lS1 rfl lS0))))) (ih33 (x6_27 + 1) M38 hI38 hFm38 hFl10638 (by omega) (by omega))
                  · replace v36p := v36p.resolve_right (by omega)
                    refine s_iconst (v := 1) kx_277_135 (by decide) ?_
                    refine s_goto (t := 140) kx_277_136 (by decide) ?_
                    refine r_ast (k := 106) kx_277_140 (tk_106 hT) ⟨by omega, by omega⟩ hI28 ru_106 (fun M39 hI39 u39 => ?_)
                    have hFm39 := hFm28.up u39 rfl
                    have hFl10639 := fl28.up u39 rfl
                    refine r_iinc kx_277_141 rfl km_277_6 (by decide) ⟨by omega, by omega⟩ rfl ?_
                    refine s_goto (t := 106) kx_277_144 (by decide) ?_
                    exact cP.wk (lS1 rfl (lS1 rfl (lS1 rfl (lS1 rfl (lS1 rfl lS0))))) (ih33 (x6_27 + 1) M39 hI39 hFm39 hFl10639 (by omega) (by omega))
            exact cP.wk (lS1 rfl (lS1 rfl (lS1 rfl (lS1 rfl (lS1 rfl lS0))))) (key29 _ 0 M26 hI26 hFm26 Fr.refl (by omega) (Nat.lt_succ_self _))
          refine s_icmp_ne (t := 99) kx_277_92 (by decide) (fun hc18 => ?_) (fun hc18 => ?_)
          · have hJ19 : Fr gR_277_j92 M8 M8 := Fr.refl
            refine s_iload_n kx_277_99 rfl ?_
            exact cP.wk (lS1 rfl (lS1 rfl (lS1 rfl (lS1 rfl lS0)))) (jn22 (v1 / 2) (by omega) (by omega) (by omega))
          · have hJ20 : Fr gR_277_j92 M8 M8 := Fr.refl
            refine s_iconst (v := 0) kx_277_95 (by decide) ?_
            refine s_goto (t := 100) kx_277_96 (by decide) ?_
            exact cP.wk (lS1 rfl (lS1 rfl (lS1 rfl (lS1 rfl lS0)))) (jn22 0 (by omega) (by omega) (by omega))
        · refine s_aload_n kx_277_48 rfl ?_
          refine s_iload_n kx_277_49 rfl ?_
          refine s_iload_n kx_277_50 rfl ?_
          refine s_iload kx_277_51 rfl ?_
          refine s_callV2 (k := 63) (s1 := 4) (s2 := 0) (as := [(0, x6_7), (0, (v1 / 2)), (0, p)]) (rest := []) kx_277_53 kp_277_591 (Or.inl rfl) rfl (tk_63 hT) ki_275 kcl_275 rfl rfl (by decide) (m_275 (d := d) (p := p) (many := (v1 / 2)) (way := x6_7) hT hI8 (hS.fr hFm8 rfl) (by omega) (by omega) (fun q a b => by rw [show M8 64 (2 * q).toNat = M2 64 (2 * q).toNat from (fl8 64 _ rfl)]; exact v3p.2.2.2.2.2.2.2 q a (by omega))) (kW (fun v40 M41 hI41 fr41 v40p => ?_))
          have hFm41 := hFm8.call fr41 rfl
          have hFl4041 := fl8.call fr41 rfl
          refine s_istore kx_277_56 km_277_7 rfl ?_
          refine s_iload kx_277_58 rfl ?_
          refine s_iconst (v := (-1)) kx_277_60 (by decide) ?_
          refine s_icmp_eq (t := 82) kx_277_61 (by decide) (fun hc42 => ?_) (fun hc42 => ?_)
          · refine r_iinc kx_277_82 rfl km_277_6 (by decide) ⟨by omega, by omega⟩ rfl ?_
            refine s_goto (t := 40) kx_277_85 (by decide) ?_
            exact cP.wk (lS1 rfl (lS1 rfl (lS1 rfl (lS1 rfl (lS1 rfl (lS1 rfl lS0)))))) (ih15 x4_5 x5_6 (x6_7 + 1) M41 hI41 hFm41 hFl4041 (by omega) (by omega) (by omega) (by omega))
          · refine s_iload kx_277_64 rfl ?_
            refine s_iload kx_277_66 rfl ?_
            refine s_icmp_lt (t := 74) kx_277_68 (by decide) (fun hc43 => ?_) (fun hc43 => ?_)
            · refine s_iload kx_277_74 rfl ?_
              refine s_istore kx_277_76 km_277_5 rfl ?_
              refine s_iload kx_277_78 rfl ?_
              refine s_istore kx_277_80 km_277_4 rfl ?_
              refine r_iinc kx_277_82 rfl km_277_6 (by decide) ⟨by omega, by omega⟩ rfl ?_
              refine s_goto (t := 40) kx_277_85 (by decide) ?_
              exact cP.wk (lS1 rfl (lS1 rfl (lS1 rfl (lS1 rfl (lS1 rfl (lS1 rfl lS0)))))) (ih15 x6_7 v40 (x6_7 + 1) M41 hI41 hFm41 hFl4041 (by omega) (by omega) (by omega) (by omega))
            · refine s_goto (t := 82) kx_277_71 (by decide) ?_
              refine r_iinc kx_277_82 rfl km_277_6 (by decide) ⟨by omega, by omega⟩ rfl ?_
              refine s_goto (t := 40) kx_277_85 (by decide) ?_
              exact cP.wk (lS1 rfl (lS1 rfl (lS1 rfl (lS1 rfl (lS1 rfl (lS1 rfl lS0)))))) (ih15 x4_5 x5_6 (x6_7 + 1) M41 hI41 hFm41 hFl4041 (by omega) (by omega) (by omega) (by omega))
    exact cP.wk (lS1 rfl (lS1 rfl (lS1 rfl (lS1 rfl (lS1 rfl (lS1 rfl lS0)))))) (key9 _ (-1) 100000000 0 M2 hI2 hFm2 Fr.refl (by omega) (by omega) (by omega) (Nat.lt_succ_self _))
  · replace v3p := v3p.resolve_left (by omega)
    refine s_aload_n kx_277_19 rfl ?_
    refine s_iconst (v := 5) kx_277_20 (by decide) ?_
    refine s_callV2 (k := 63) (s1 := 2) (s2 := 0) (as := [(0, 5)]) (rest := []) kx_277_21 kp_277_255 (Or.inl rfl) rfl (tk_63 hT) ki_218 kcl_218 rfl rfl (by decide) (n_218 (d := d + 4) (kind := 5) hT hI2 (by omega)) (kW (fun v44 M45 hI45 fr45 v44p => ?_))
    have hFm45 := hFm2.call fr45 rfl
    exact s_iret kx_277_24 (Or.inl kq_277) ⟨_, _, rfl, rfl, hI45, hFm45, ⟨(Or.inl ⟨(by rw [v1e]; omega), ((v44p.2.2).of (fun f => (u2.2 91 _ (by omega))) (fun f => rfl))⟩), ((fr45 63 1 rfl).trans u2.1)⟩⟩
