theorem h_283 {xs : Nat → Int} {Ln d : Nat} {T : List cK} {M : cM} (hT : TT T) (hI : Rng M) {n : Int} {D S : cM} (hR : RR D S M) {s : Nat → Int} (hs : M 64 = s) (p0 : 0 ≤ n ∧ n ≤ 1600) : cC k_P xs Ln (d + 1) 283 [rf 63, (0, n)] (T, M) (qF T M 0 (fun v => (v = 1 ∧ pSo D s n = 1 ∧ 2 ≤ n ∧ n ≤ 16) ∨ (v = 0 ∧ pSo D s n = 0))) := by
  show cP k_P xs Ln (d + 1) 283 0 [(0, rf 63), (1, (0, n))] [] (T, M) _
  have hD := hR.2.1
  have hDr := hD.rg
  have hSW := hR.2.2.2.2
  refine s_iload_n kx_283_0 rfl ?_
  refine s_if_eq (t := 16) kx_283_1 (by decide) (fun hc1 => ?_) (fun hc1 => ?_)
  · refine s_iconst (v := 0) kx_283_16 (by decide) ?_
    exact s_iret kx_283_17 (Or.inr ⟨kq_283, by omega⟩) ⟨_, rfl, rfl, (Or.inr ⟨rfl, by unfold pSo; exact if_neg (by omega)⟩)⟩
  · refine s_iload_n kx_283_4 rfl ?_
    refine s_iconst (v := 2) kx_283_5 (by decide) ?_
    refine r_irem kx_283_6 (by omega) (by omega) (by omega) (by omega) ?_
    refine s_if_gt (t := 16) kx_283_7 (by decide) (fun hc2 => ?_) (fun hc2 => ?_)
    · refine s_iconst (v := 0) kx_283_16 (by decide) ?_
      exact s_iret kx_283_17 (Or.inr ⟨kq_283, by omega⟩) ⟨_, rfl, rfl, (Or.inr ⟨rfl, by unfold pSo; exact if_neg (by omega)⟩)⟩
    · refine s_iload_n kx_283_10 rfl ?_
      refine s_bipush (v := 16) kx_283_11 (by decide) ?_
      refine s_icmp_le (t := 18) kx_283_13 (by decide) (fun hc3 => ?_) (fun hc3 => ?_)
      · refine s_iconst (v := 0) kx_283_18 (by decide) ?_
        refine s_istore_n kx_283_19 km_283_2 rfl ?_
        have key5 : ∀ n6 : Nat, ∀ (x2_4 : Int), (0 ≤ x2_4) → (x2_4 ≤ 16) → (x2_4 % 2 = 0) → (x2_4 ≤ n) → (0 ≤ x2_4) → (pAll (cSo D s) (x2_4 / 2).toNat = 1) → (2147483647 - x2_4).toNat < n6 → cP k_P xs Ln (d + 1) 283 20 [(0, rf 63), (1, (0, n)), (2, (0, x2_4))] [] (T, M) (qF T M 0 (fun v => (v = 1 ∧ pSo D s n = 1 ∧ 2 ≤ n ∧ n ≤ 16) ∨ (v = 0 ∧ pSo D s n = 0))) := by
          intro n6
          induction n6 with
          | zero => intro x2_4 i7 i8 i9 i10 i11 i12 hm13; exact absurd hm13 (Nat.not_lt_zero _)
          | succ n6 ih14 =>
            intro x2_4 i7 i8 i9 i10 i11 i12 hm13
            refine s_iload_n kx_283_20 rfl ?_
            refine s_iload_n kx_283_21 rfl ?_
            refine s_icmp_ge (t := 76) kx_283_22 (by decide) (fun hc15 => ?_) (fun hc15 => ?_)
            · refine s_iconst (v := 1) kx_283_76 (by decide) ?_
              exact s_iret kx_283_77 (Or.inr ⟨kq_283, by omega⟩) ⟨_, rfl, rfl, (Or.inl ⟨rfl, by unfold pSo; rw [if_pos ⟨⟨by omega, by omega, by omega⟩, by rw [show n = x2_4 by omega]; exact i12⟩], by omega, by omega⟩)⟩
            · refine s_aload_n kx_283_25 rfl ?_
              refine s_aload_n kx_283_26 rfl ?_
              refine r_getR (k := 63) (f := 0) (k2 := 64) kx_283_27 kp_283_7 (tk_63 hT) kf_12_0 (by decide) (rq_63_0 hI) ?_
              refine s_iload_n kx_283_30 rfl ?_
              refine r_ald (k := 64) kx_283_31 (tk_64 hT) ⟨by omega, by omega⟩ (rg_64 hI) (fun v16 v16e v16a v16b => ?_)
              have v16r : s (x2_4).toNat = v16 := (congrFun hs (x2_4).toNat).symm.trans (v16e)
              have v16q2 : s (2 * (x2_4 / 2)).toNat = v16 := (congrArg s (by omega)).trans v16r
              refine s_callV2 (k := 63) (s1 := 2) (s2 := 0) (as := [(0, v16)]) (rest := []) kx_283_32 kp_283_508 (Or.inl rfl) rfl (tk_63 hT) ki_220 kcl_220 rfl rfl (by decide) (g_220 (d := d) (r := v16) hT hI hR) (kF (fun v17 v17p => ?_))
              refine s_if_ne (t := 40) kx_283_35 (by decide) (fun hc18 => ?_) (fun hc18 => ?_)
              · replace v17p := v17p.resolve_right (by omega)
                refine s_iconst (v := 0) kx_283_40 (by decide) ?_
                refine s_istore_n kx_283_41 km_283_3 rfl ?_
                have key20 : ∀ n21 : Nat, ∀ (x3_19 : Int), (0 ≤ x3_19) → (x3_19 ≤ 16) → (x3_19 % 2 = 0) → (x3_19 ≤ x2_4) → (0 ≤ x3_19) → (pAll (cNe s (s (2 * (x2_4 / 2)).toNat)) (x3_19 / 2).toNat = 1) → (2147483647 - x3_19).toNat < n21 → cP k_P xs Ln (d + 1) 283 42 [(0, rf 63), (1, (0, n)), (2, (0, x2_4)), (3, (0, x3_19))] [] (T, M) (qF T M 0 (fun v => (v = 1 ∧ pSo D s n = 1 ∧ 2 ≤ n ∧ n ≤ 16) ∨ (v = 0 ∧ pSo D s n = 0))) := by
                  intro n21
                  induction n21 with
                  | zero => intro x3_19 i22 i23 i24 i25 i26 i27 hm28; exact absurd hm28 (Nat.not_lt_zero _)
                  | succ n21 ih29 =>
                    intro x3_19 i22 i23 i24 i25 i26 i27 hm28
                    refine s_iload_n kx_283_42 rfl ?_
                    refine s_iload_n kx_283_43 rfl ?_
                    refine s_icmp_ge (t := 70) kx_283_44 (by decide) (fun hc30 => ?_) (fun hc30 => ?_)
                    · refine r_iinc kx_283_70 rfl km_283_2 (by decide) ⟨by omega, by omega⟩ rfl ?_
                      refine s_goto (t := 20) kx_283_73 (by decide) ?_
                      exact cP.wk (lS1 rfl (lS1 rfl (lS1 rfl lS0))) (ih14 (x2_4 + 2) (by omega) (by omega) (by omega) (by omega) (by omega) (by rw [show (x2_4 + 2) / 2 = x2_4 / 2 + 1 by omega]; exact pAll_S i12 (by omega) (by unfold cSo; exact if_pos ⟨by omega, by have h9 := i27; rw [show x3_19 = x2_4 by omega] at h9; exact h9⟩)) (by omega))
                    · refine s_aload_n kx_283_47 rfl ?_
                      refine r_getR (k := 63) (f := 0) (k2 := 64) kx_283_48 kp_283_7 (tk_63 hT) kf_12_0 (by decide) (rq_63_0 hI) ?_
                      refine s_iload_n kx_283_51 rfl ?_
                      refine r_ald (k := 64) kx_283_52 (tk_64 hT) ⟨by omega, by omega⟩ (rg_64 hI) (fun v31 v31e v31a v31b => ?_)
                      have v31r : s (x3_19).toNat = v31 := (congrFun hs (x3_19).toNat).symm.trans (v31e)
                      have v31q3 : s (2 * (x3_19 / 2)).toNat = v31 := (congrArg s (by omega)).trans v31r
                      refine s_aload_n kx_283_53 rfl ?_
                      refine r_getR (k := 63) (f := 0) (k2 := 64) kx_283_54 kp_283_7 (tk_63 hT) kf_12_0 (by decide) (rq_63_0 hI) ?_
                      refine s_iload_n kx_283_57 rfl ?_
                      refine r_aldK (k := 64) kx_283_58 (tk_64 hT) ⟨by omega, by omega⟩ v16e ?_
                      refine s_icmp_ne (t := 64) kx_283_59 (by decide) (fun hc32 => ?_) (fun hc32 => ?_)
                      · refine r_iinc kx_283_64 rfl km_283_3 (by decide) ⟨by omega, by omega⟩ rfl ?_
                        refine s_goto (t := 42) kx_283_67 (by decide) ?_
                        exact cP.wk (lS1 rfl (lS1 rfl (lS1 rfl (lS1 rfl lS0)))) (ih29 (x3_19 + 2) (by omega) (by omega) (by omega) (by omega) (by omega) (by rw [show (x3_19 + 2) / 2 = x3_19 / 2 + 1 by omega]; exact pAll_S i27 (by omega) (by unfold cNe; rw [v31q3]; exact if_neg (by rw [v16q2]; omega))) (by omega))
                      · have hn0 := pAll_0 (c := cNe s v16) (x := x3_19 / 2) (by omega) (by unfold cNe; rw [v31q3, if_pos (by omega)]; decide) (x2_4 / 2).toNat (by omega)
                        have hno : cSo D s (x2_4 / 2) ≠ 1 := by unfold cSo; rw [v16q2, if_neg (by omega)]; decide
                        refine s_iconst (v := 0) kx_283_62 (by decide) ?_
                        exact s_iret kx_283_63 (Or.inr ⟨kq_283, by omega⟩) ⟨_, rfl, rfl, (Or.inr ⟨rfl, by have h9 := pAll_0 (c := cSo D s) (x := x2_4 / 2) (by omega) hno (n / 2).toNat (by omega); unfold pSo; exact if_neg (by omega)⟩)⟩
                exact cP.wk (lS1 rfl (lS1 rfl (lS1 rfl (lS1 rfl lS0)))) (key20 _ 0 (by omega) (by omega) (by omega) (by omega) (by omega) rfl (Nat.lt_succ_self _))
              · replace v17p := v17p.resolve_left (by omega)
                have hno : cSo D s (x2_4 / 2) ≠ 1 := by unfold cSo; rw [v16q2, if_neg (by omega)]; decide
                refine s_iconst (v := 0) kx_283_38 (by decide) ?_
                exact s_iret kx_283_39 (Or.inr ⟨kq_283, by omega⟩) ⟨_, rfl, rfl, (Or.inr ⟨rfl, by have h9 := pAll_0 (c := cSo D s) (x := x2_4 / 2) (by omega) hno (n / 2).toNat (by omega); unfold pSo; exact if_neg (by omega)⟩)⟩
        exact cP.wk (lS1 rfl (lS1 rfl (lS1 rfl lS0))) (key5 _ 0 (by omega) (by omega) (by omega) (by omega) (by omega) rfl (Nat.lt_succ_self _))
      · refine s_iconst (v := 0) kx_283_16 (by decide) ?_
        exact s_iret kx_283_17 (Or.inr ⟨kq_283, by omega⟩) ⟨_, rfl, rfl, (Or.inr ⟨rfl, by unfold pSo; exact if_neg (by omega)⟩)⟩
def hR_284_l33 : List (Nat × Nat) := [(108, 99999), (109, 99999)]
def hR_284_l84 : List (Nat × Nat) := [(107, 99999), (110, 99999), (111, 99999), (112, 99999)]
def hR_284_l99 : List (Nat × Nat) := [(107, 99999), (110, 99999), (111, 99999), (112, 99999)]
def hR_284_m : List (Nat × Nat) := [(107, 99999), (108, 99999), (109, 99999), (110, 99999), (111, 99999), (112, 99999), (63, 1), (63, 70), (63, 72), (91, 99999)]
theorem h_284 {xs : Nat → Int} {Ln d : Nat} {T : List cK} {M : cM} (hT : TT T) (hI : Rng M) {D S : cM} (hR : RR D S M) {s : Nat → Int} (hs : M 64 = s) : cC k_P xs Ln (d + 3) 284 [rf 63] (T, M) (qW T M hR_284_m 0 (fun v M1 => v = pSg D S s (M 63 1) ∧ ((pSo D s (M 63 1) = 1 ∧ M1 63 70 = 1 ∧ WHS D S s (M 63 1 / 2) (fun p r => M1 107 (8 * p + r).toNat)) ∨ (pSo D s (M 63 1) = 0 ∧ M1 63 70 = M 63 70 ∧ ∀ f, M1 107 f = M 107 f)) ∧ M1 63 1 = 0)) := by
  show cP k_P xs Ln (d + 3) 284 0 [(0, rf 63)] [] (T, M) _
  have hFm : Fr hR_284_m M M := Fr.refl
  have hD := hR.2.1
  have hDr := hD.rg
  have hSW := hR.2.2.2.2
  refine s_aload_n kx_284_0 rfl ?_
  refine r_getI (k := 63) (f := 1) kx_284_1 kp_284_13 (tk_63 hT) kf_12_1 (fun _ => rfl) (rg_63_1 hI) (fun v1 v1e v1a v1b => ?_)
  refine s_istore_n kx_284_4 km_284_1 rfl ?_
  refine s_aload_n kx_284_5 rfl ?_
  refine s_iconst (v := 0) kx_284_6 (by decide) ?_
  refine r_put (k := 63) (f := 1) kx_284_7 kp_284_13 (tk_63 hT) kf_12_1 rfl (by decide) (by decide) hI (ru_63_1 (by omega) (by omega)) (fun M2 hI2 u2 => ?_)
  have hFm2 := hFm.up u2 rfl
  have hc3 := (RR.up hR u2 (by omega))
  refine s_aload_n kx_284_10 rfl ?_
  refine s_iload_n kx_284_11 rfl ?_
  refine s_callV2 (k := 63) (s1 := 2) (s2 := 0) (as := [(0, v1)]) (rest := []) kx_284_12 kp_284_603 (Or.inl rfl) rfl (tk_63 hT) ki_283 kcl_283 rfl rfl (by decide) (h_283 (d := d + 1) (n := v1) hT hI2 hc3 ((funext fun i => (u2.2 64 _ (by omega))).trans hs) (by omega)) (kF (fun v4 v4p => ?_))
  refine s_if_ne (t := 24) kx_284_15 (by decide) (fun hc5 => ?_) (fun hc5 => ?_)
  · replace v4p := v4p.resolve_right (by omega)
    have hs0 : ∀ i, 0 ≤ s i := fun i => by rw [← hs]; exact (rg_64 hI).1
    have hds : DST s (v1 / 2) := DST.of hDr.2.1 hs0 v4p.2.1
    have hR8 : 0 ≤ v1 / 2 ∧ v1 / 2 ≤ 8 := ⟨by omega, by omega⟩
    refine s_aload_n kx_284_24 rfl ?_
    refine s_iload_n kx_284_25 rfl ?_
    refine s_iconst (v := 2) kx_284_26 (by decide) ?_
    refine r_idiv kx_284_27 (by omega) (by omega) (by omega) (by omega) ?_
    refine r_put (k := 63) (f := 72) kx_284_28 kp_284_231 (tk_63 hT) kf_12_72 rfl (by decide) (by decide) hI2 (ru_63_72 (by omega) (by omega)) (fun M6 hI6 u6 => ?_)
    have hFm6 := hFm2.up u6 rfl
    have hc7 := (RR.up hc3 u6 (by omega))
    refine s_iconst (v := 0) kx_284_31 (by decide) ?_
    refine s_istore_n kx_284_32 km_284_2 rfl ?_
    have key10 : ∀ n11 : Nat, ∀ (x2_8 : Int), ∀ M9 : cM, Rng M9 → Fr hR_284_m M M9 → Fr hR_284_l33 M6 M9 → (0 ≤ x2_8) → (x2_8 ≤ 8) → (x2_8 ≤ v1 / 2) → (∀ k : Int, 0 ≤ k → k < x2_8 → M9 108 k.toNat = s (2 * k).toNat ∧ M9 109 k.toNat = s (2 * k + 1).toNat) → (2147483647 - x2_8).toNat < n11 → cP k_P xs Ln (d + 3) 284 33 [(0, rf 63), (2, (0, x2_8))] [] (T, M9) (qW T M hR_284_m 0 (fun v M1 => v = pSg D S s (M 63 1) ∧ ((pSo D s (M 63 1) = 1 ∧ M1 63 70 = 1 ∧ WHS D S s (M 63 1 / 2) (fun p r => M1 107 (8 * p + r).toNat)) ∨ (pSo D s (M 63 1) = 0 ∧ M1 63 70 = M 63 70 ∧ ∀ f, M1 107 f = M 107 f)) ∧ M1 63 1 = 0)) := by
      intro n11
      induction n11 with
      | zero => intro x2_8 M9 hI9 hFm9 fl9 i12 i13 i14 i15 hm16; exact absurd hm16 (Nat.not_lt_zero _)
      | succ n11 ih17 =>
        intro x2_8 M9 hI9 hFm9 fl9 i12 i13 i14 i15 hm16
        refine s_iload_n kx_284_33 rfl ?_
        refine s_aload_n kx_284_34 rfl ?_
        refine r_getK (k := 63) (f := 72) kx_284_35 kp_284_231 (tk_63 hT) kf_12_72 (fun _ => rfl) ((fl9 63 72 rfl).trans u6.1) ?_
        refine s_icmp_ge (t := 77) kx_284_38 (by decide) (fun hc18 => ?_) (fun hc18 => ?_)
        · have hrr : M9 63 72 = (v1 / 2) := ((fl9 63 72 rfl).trans u6.1)
          have hrw : RWS s (v1 / 2) M9 := ⟨hrr, by have h9 := i15; rw [show x2_8 = v1 / 2 by omega] at h9; exact h9⟩
          refine s_aload_n kx_284_77 rfl ?_
          refine s_iconst (v := 1) kx_284_78 (by decide) ?_
          refine r_put (k := 63) (f := 70) kx_284_79 kp_284_225 (tk_63 hT) kf_12_70 rfl (by decide) (by decide) hI9 (ru_63_70 (by omega) (by omega)) (fun M19 hI19 u19 => ?_)
          have hFm19 := hFm9.up u19 rfl
          have hc20 := (RR.up (RR.fr hc7 fl9 rfl) u19 (by omega))
          refine s_iconst (v := 0) kx_284_82 (by decide) ?_
          refine s_istore_n kx_284_83 km_284_2 rfl ?_
          have key23 : ∀ n24 : Nat, ∀ (x2_21 : Int), ∀ M22 : cM, Rng M22 → Fr hR_284_m M M22 → Fr hR_284_l84 M19 M22 → (0 ≤ x2_21) → (x2_21 ≤ 8) → (x2_21 ≤ D 0 1) → (WHO D S s (v1 / 2) x2_21 0 M22) → (2147483647 - x2_21).toNat < n24 → cP k_P xs Ln (d + 3) 284 84 [(0, rf 63), (2, (0, x2_21))] [] (T, M22) (qW T M hR_284_m 0 (fun v M1 => v = pSg D S s (M 63 1) ∧ ((pSo D s (M 63 1) = 1 ∧ M1 63 70 = 1 ∧ WHS D S s (M 63 1 / 2) (fun p r => M1 107 (8 * p + r).toNat)) ∨ (pSo D s (M 63 1) = 0 ∧ M1 63 70 = M 63 70 ∧ ∀ f, M1 107 f = M 107 f)) ∧ M1 63 1 = 0)) := by
            intro n24
            induction n24 with
            | zero => intro x2_21 M22 hI22 hFm22 fl22 i25 i26 i27 i28 hm29; exact absurd hm29 (Nat.not_lt_zero _)
            | succ n24 ih30 =>
              intro x2_21 M22 hI22 hFm22 fl22 i25 i26 i27 i28 hm29
              have hq0 : True := trivial
              refine s_iload_n kx_284_84 rfl ?_
              refine s_aload_n kx_284_85 rfl ?_
              refine r_getR (k := 63) (f := 19) (k2 := 69) kx_284_86 kp_284_69 (tk_63 hT) kf_12_19 (by decide) (rq_63_19 hI22) ?_
              refine s_aload_n kx_284_89 rfl ?_
              refine r_getI (k := 63) (f := 14) kx_284_90 kp_284_54 (tk_63 hT) kf_12_14 (fun _ => rfl) (rg_63_14 hI22) (fun v31 v31e v31a v31b => ?_)
              have v31z : M 63 14 = v31 := (((fl22 63 14 rfl).trans ((u19.2 63 14 (by omega)).trans ((fl9 63 14 rfl).trans ((u6.2 63 14 (by omega)).trans (u2.2 63 14 (by omega))))))).symm.trans v31e
              refine r_ald (k := 69) kx_284_93 (tk_69 hT) ⟨by omega, by omega⟩ (rg_69 hI22) (fun v32 v32e v32a v32b => ?_)
              have v32d : D 0 1 = v32 := by have h9 := ((RR.fr hc20 fl22 rfl)).1.2.1; rw [v31e] at h9; exact h9.symm.trans v32e
              refine s_icmp_ge (t := 141) kx_284_94 (by decide) (fun hc33 => ?_) (fun hc33 => ?_)
              · refine s_aload_n kx_284_141 rfl ?_
                refine s_iconst (v := (-1)) kx_284_142 (by decide) ?_
                refine s_iconst (v := (-1)) kx_284_143 (by decide) ?_
                refine s_callV2 (k := 63) (s1 := 3) (s2 := 0) (as := [(0, (-1)), (0, (-1))]) (rest := []) kx_284_144 kp_284_606 (Or.inl rfl) rfl (tk_63 hT) ki_282 kcl_282 rfl rfl (by decide) (h_282 (d := d) (one := (-1)) (where_ := (-1)) hT hI22 (RR.fr hc20 fl22 rfl) (RWS.fr (RWS.up hrw u19 (by omega)) fl22 rfl (fun _ => rfl) (fun _ => rfl)) hds hR8) (kW (fun v34 M35 hI35 fr35 v34p => ?_))
                have hFm35 := hFm22.call fr35 rfl
                have hc36 := (RR.fr (RR.fr hc20 fl22 rfl) fr35 rfl)
                exact s_iret kx_284_147 (Or.inl kq_284) ⟨_, _, rfl, rfl, hI35, hFm35, (by rw [v1e]; exact ⟨by unfold pSg; rw [if_pos v4p.2.1, ← pWa_t]; exact v34p, Or.inl ⟨v4p.2.1, ((fr35 63 70 rfl).trans ((fl22 63 70 rfl).trans u19.1)), WHO.en (WHO.fr i28 fr35 (fun _ => rfl)) (by omega)⟩, ((fr35 63 1 rfl).trans ((fl22 63 1 rfl).trans ((u19.2 63 1 (by omega)).trans ((fl9 63 1 rfl).trans ((u6.2 63 1 (by omega)).trans u2.1)))))⟩)⟩
              · refine s_iconst (v := 0) kx_284_97 (by decide) ?_
                refine s_istore_n kx_284_98 km_284_3 rfl ?_
                have key39 : ∀ n40 : Nat, ∀ (x3_37 : Int), ∀ M38 : cM, Rng M38 → Fr hR_284_m M M38 → Fr hR_284_l84 M19 M38 → Fr hR_284_l99 M22 M38 → (0 ≤ x3_37) → (x3_37 ≤ 8) → (x3_37 ≤ D 0 0) → (WHO D S s (v1 / 2) x2_21 x3_37 M38) → (2147483647 - x3_37).toNat < n40 → cP k_P xs Ln (d + 3) 284 99 [(0, rf 63), (2, (0, x2_21)), (3, (0, x3_37))] [] (T, M38) (qW T M hR_284_m 0 (fun v M1 => v = pSg D S s (M 63 1) ∧ ((pSo D s (M 63 1) = 1 ∧ M1 63 70 = 1 ∧ WHS D S s (M 63 1 / 2) (fun p r => M1 107 (8 * p + r).toNat)) ∨ (pSo D s (M 63 1) = 0 ∧ M1 63 70 = M 63 70 ∧ ∀ f, M1 107 f = M 107 f)) ∧ M1 63 1 = 0)) := by
                  intro n40
                  induction n40 with
                  | zero => intro x3_37 M38 hI38 hFm38 hFl8438 fl38 i41 i42 i43 i44 hm45; exact absurd hm45 (Nat.not_lt_zero _)
                  | succ n40 ih46 =>
                    intro x3_37 M38 hI38 hFm38 hFl8438 fl38 i41 i42 i43 i44 hm45
                    have hq0 : True := trivial
                    refine s_iload_n kx_284_99 rfl ?_
                    refine s_aload_n kx_284_100 rfl ?_
                    refine r_getR (k := 63) (f := 15) (k2 := 65) kx_284_101 kp_284_57 (tk_63 hT) kf_12_15 (by decide) (rq_63_15 hI38) ?_
                    refine s_aload_n kx_284_104 rfl ?_
                    refine r_getK (k := 63) (f := 14) kx_284_105 kp_284_54 (tk_63 hT) kf_12_14 (fun _ => rfl) ((fl38 63 14 rfl).trans v31e) ?_
                    refine r_ald (k := 65) kx_284_108 (tk_65 hT) ⟨by omega, by omega⟩ (rg_65 hI38) (fun v47 v47e v47a v47b => ?_)
                    have v47d : D 0 0 = v47 := by have h9 := ((RR.fr (RR.fr hc20 fl22 rfl) fl38 rfl)).1.1; rw [((fl38 63 14 rfl).trans v31e)] at h9; exact h9.symm.trans v47e
                    refine s_icmp_ge (t := 135) kx_284_109 (by decide) (fun hc48 => ?_) (fun hc48 => ?_)
                    · refine r_iinc kx_284_135 rfl km_284_2 (by decide) ⟨by omega, by omega⟩ rfl ?_
                      refine s_goto (t := 84) kx_284_138 (by decide) ?_
                      exact cP.wk (lS1 rfl (lS1 rfl lS0)) (ih30 (x2_21 + 1) M38 hI38 hFm38 hFl8438 (by omega) (by omega) (by omega) (WHO.ps i44 (by omega)) (by omega))
                    · refine s_aload_n kx_284_112 rfl ?_
                      refine r_getR (k := 63) (f := 71) (k2 := 107) kx_284_113 kp_284_228 (tk_63 hT) kf_12_71 (by decide) (rq_63_71 hI38) ?_
                      refine s_bipush (v := 8) kx_284_116 (by decide) ?_
                      refine s_iload_n kx_284_118 rfl ?_
                      refine r_mul kx_284_119 ⟨by omega, by omega⟩ ?_
                      refine s_iload_n kx_284_120 rfl ?_
                      refine r_add kx_284_121 ⟨by omega, by omega⟩ ?_
                      refine s_aload_n kx_284_122 rfl ?_
                      refine s_iload_n kx_284_123 rfl ?_
                      refine s_iload_n kx_284_124 rfl ?_
                      refine s_callV2 (k := 63) (s1 := 3) (s2 := 2) (as := [(0, x3_37), (0, x2_21)]) (rest := [(0, ((8 * x2_21) + x3_37)), rf 107]) kx_284_125 kp_284_606 (Or.inl rfl) rfl (tk_63 hT) ki_282 kcl_282 rfl rfl (by decide) (h_282 (d := d) (one := x2_21) (where_ := x3_37) hT hI38 (RR.fr (RR.fr hc20 fl22 rfl) fl38 rfl) (RWS.fr (RWS.fr (RWS.up hrw u19 (by omega)) fl22 rfl (fun _ => rfl) (fun _ => rfl)) fl38 rfl (fun _ => rfl) (fun _ => rfl)) hds hR8) (kW (fun v49 M50 hI50 fr50 v49p => ?_))
                      have hFm50 := hFm38.call fr50 rfl
                      have hFl8450 := hFl8438.call fr50 rfl
                      have hFl9950 := fl38.call fr50 rfl
                      have hc51 := (RR.fr (RR.fr (RR.fr hc20 fl22 rfl) fl38 rfl) fr50 rfl)
                      refine r_ast (k := 107) kx_284_128 (tk_107 hT) ⟨by omega, by omega⟩ hI50 ru_107 (fun M52 hI52 u52 => ?_)
                      have hFm52 := hFm50.up u52 rfl
                      have hFl8452 := hFl8450.up u52 rfl
                      have hFl9952 := hFl9950.up u52 rfl
                      have hc53 := (RR.up hc51 u52 (by omega))
                      refine r_iinc kx_284_129 rfl km_284_3 (by decide) ⟨by omega, by omega⟩ rfl ?_
                      refine s_goto (t := 99) kx_284_132 (by decide) ?_
                      exact cP.wk (lS1 rfl (lS1 rfl (lS1 rfl lS0))) (ih46 (x3_37 + 1) M52 hI52 hFm52 hFl8452 hFl9952 (by omega) (by omega) (by omega) (WHO.nx (WHO.fr i44 fr50 (fun _ => rfl)) (by omega) ⟨by omega, by omega⟩ (by omega) u52 rfl v49p) (by omega))
                exact cP.wk (lS1 rfl (lS1 rfl (lS1 rfl lS0))) (key39 _ 0 M22 hI22 hFm22 fl22 Fr.refl (by omega) (by omega) (by omega) i28 (Nat.lt_succ_self _))
          exact cP.wk (lS1 rfl (lS1 rfl lS0)) (key23 _ 0 M19 hI19 hFm19 Fr.refl (by omega) (by omega) (by omega) (fun q x a b c e => absurd e (by omega)) (Nat.lt_succ_self _))
        · refine s_aload_n kx_284_41 rfl ?_
          refine r_getR (k := 63) (f := 73) (k2 := 108) kx_284_42 kp_284_234 (tk_63 hT) kf_12_73 (by decide) (rq_63_73 hI9) ?_
          refine s_iload_n kx_284_45 rfl ?_
          refine s_aload_n kx_284_46 rfl ?_
          refine r_getR (k := 63) (f := 0) (k2 := 64) kx_284_47 kp_284_7 (tk_63 hT) kf_12_0 (by decide) (rq_63_0 hI9) ?_
          refine s_iconst (v := 2) kx_284_50 (by decide) ?_
          refine s_iload_n kx_284_51 rfl ?_
          refine r_mul kx_284_52 ⟨by omega, by omega⟩ ?_
          refine r_ald (k := 64) kx_284_53 (tk_64 hT) ⟨by omega, by omega⟩ (rg_64 hI9) (fun v54 v54e v54a v54b => ?_)
          have v54r : s ((2 * x2_8)).toNat = v54 := (congrFun hs ((2 * x2_8)).toNat).symm.trans ((((fl9 64 _ rfl).trans ((u6.2 64 _ (by omega)).trans (u2.2 64 _ (by omega))))).symm.trans v54e)
          refine r_ast (k := 108) kx_284_54 (tk_108 hT) ⟨by omega, by omega⟩ hI9 (ru_108 (by omega) (by omega)) (fun M55 hI55 u55 => ?_)
          have hFm55 := hFm9.up u55 rfl
          have hFl3355 := fl9.up u55 rfl
          have hc56 := (RR.up (RR.fr hc7 fl9 rfl) u55 (by omega))
          refine s_aload_n kx_284_55 rfl ?_
          refine r_getR (k := 63) (f := 74) (k2 := 109) kx_284_56 kp_284_237 (tk_63 hT) kf_12_74 (by decide) (rq_63_74 hI55) ?_
          refine s_iload_n kx_284_59 rfl ?_
          refine s_aload_n kx_284_60 rfl ?_
          refine r_getR (k := 63) (f := 0) (k2 := 64) kx_284_61 kp_284_7 (tk_63 hT) kf_12_0 (by decide) (rq_63_0 hI55) ?_
          refine s_iconst (v := 2) kx_284_64 (by decide) ?_
          refine s_iload_n kx_284_65 rfl ?_
          refine r_mul kx_284_66 ⟨by omega, by omega⟩ ?_
          refine s_iconst (v := 1) kx_284_67 (by decide) ?_
          refine r_add kx_284_68 ⟨by omega, by omega⟩ ?_
          refine r_ald (k := 64) kx_284_69 (tk_64 hT) ⟨by omega, by omega⟩ (rg_64 hI55) (fun v57 v57e v57a v57b => ?_)
          have v57r : s (((2 * x2_8) + 1)).toNat = v57 := (congrFun hs (((2 * x2_8) + 1)).toNat).symm.trans ((((u55.2 64 _ (by omega)).trans ((fl9 64 _ rfl).trans ((u6.2 64 _ (by omega)).trans (u2.2 64 _ (by omega)))))).symm.trans v57e)
          refine r_ast (k := 109) kx_284_70 (tk_109 hT) ⟨by omega, by omega⟩ hI55 (ru_109 (by omega) (by omega)) (fun M58 hI58 u58 => ?_)
          have hFm58 := hFm55.up u58 rfl
          have hFl3358 := hFl3355.up u58 rfl
          have hc59 := (RR.up hc56 u58 (by omega))
          refine r_iinc kx_284_71 rfl km_284_2 (by decide) ⟨by omega, by omega⟩ rfl ?_
          refine s_goto (t := 33) kx_284_74 (by decide) ?_
          exact cP.wk (lS1 rfl (lS1 rfl lS0)) (ih17 (x2_8 + 1) M58 hI58 hFm58 hFl3358 (by omega) (by omega) (by omega) (RWS.nx i15 (by omega) u55 u58 rfl rfl v54r v57r) (by omega))
    exact cP.wk (lS1 rfl (lS1 rfl lS0)) (key10 _ 0 M6 hI6 hFm6 Fr.refl (by omega) (by omega) (by omega) (fun k a b => absurd b (by omega)) (Nat.lt_succ_self _))
  · replace v4p := v4p.resolve_left (by omega)
    refine s_aload_n kx_284_18 rfl ?_
    refine s_iconst (v := 5) kx_284_19 (by decide) ?_
    refine s_callV2 (k := 63) (s1 := 2) (s2 := 0) (as := [(0, 5)]) (rest := []) kx_284_20 kp_284_255 (Or.inl rfl) rfl (tk_63 hT) ki_218 kcl_218 rfl rfl (by decide) (n_218 (d := d + 2) (kind := 5) hT hI2 (by omega)) (kW (fun v60 M61 hI61 fr61 v60p => ?_))
    have hFm61 := hFm2.call fr61 rfl
    have hc62 := (RR.fr hc3 fr61 rfl)
    exact s_iret kx_284_23 (Or.inl kq_284) ⟨_, _, rfl, rfl, hI61, hFm61, (by rw [v1e]; exact ⟨by unfold pSg; rw [if_neg (by omega)]; omega, Or.inr ⟨v4p.2, ((fr61 63 70 rfl).trans (u2.2 63 70 (by omega))), fun f => ((fr61 107 _ rfl).trans (u2.2 107 _ (by omega)))⟩, ((fr61 63 1 rfl).trans u2.1)⟩)⟩
theorem h_285 {xs : Nat → Int} {Ln d : Nat} {T : List cK} {M : cM} (hT : TT T) (hI : Rng M) {p r : Int} {D S : cM} (hR : RR D S M) : cC k_P xs Ln (d + 1) 285 [rf 63, (0, p), (0, r)] (T, M) (qF T M 0 (fun v => v = pWq D (M 63 70) (fun p r => M 107 (8 * p + r).toNat) p r)) := by
  show cP k_P xs Ln (d + 1) 285 0 [(0, rf 63), (1, (0, p)), (2, (0, r))] [] (T, M) _
  have hD := hR.2.1
  have hDr := hD.rg
  have hSW := hR.2.2.2.2
  refine s_aload_n kx_285_0 rfl ?_
  refine r_getI (k := 63) (f := 70) kx_285_1 kp_285_225 (tk_63 hT) kf_12_70 (fun _ => rfl) (rg_63_70 hI) (fun v1 v1e v1a v1b => ?_)
  refine s_if_eq (t := 37) kx_285_4 (by decide) (fun hc2 => ?_) (fun hc2 => ?_)
  · refine s_iconst (v := (-1)) kx_285_37 (by decide) ?_
    exact s_iret kx_285_38 (Or.inl kq_285) ⟨_, rfl, rfl, (by unfold pWq; rw [if_neg (by omega)])⟩
  · refine s_aload_n kx_285_7 rfl ?_
    refine s_iload_n kx_285_8 rfl ?_
    refine s_callV2 (k := 63) (s1 := 2) (s2 := 0) (as := [(0, p)]) (rest := []) kx_285_9 kp_285_514 (Or.inl rfl) rfl (tk_63 hT) ki_221 kcl_221 rfl rfl (by decide) (g_221 (d := d) (p := p) hT hI hR) (kF (fun v3 v3p => ?_))
    refine s_if_eq (t := 37) kx_285_12 (by decide) (fun hc4 => ?_) (fun hc4 => ?_)
    · replace v3p := v3p.resolve_left (by omega)
      refine s_iconst (v := (-1)) kx_285_37 (by decide) ?_
      exact s_iret kx_285_38 (Or.inl kq_285) ⟨_, rfl, rfl, (by unfold pWq; rw [if_neg (by omega)])⟩
    · replace v3p := v3p.resolve_right (by omega)
      refine s_aload_n kx_285_15 rfl ?_
      refine s_iload_n kx_285_16 rfl ?_
      refine s_callV2 (k := 63) (s1 := 2) (s2 := 0) (as := [(0, r)]) (rest := []) kx_285_17 kp_285_508 (Or.inl rfl) rfl (tk_63 hT) ki_220 kcl_220 rfl rfl (by decide) (g_220 (d := d) (r := r) hT hI hR) (kF (fun v5 v5p => ?_))
      refine s_if_eq (t := 37) kx_285_20 (by decide) (fun hc6 => ?_) (fun hc6 => ?_)
      · replace v5p := v5p.resolve_left (by omega)
        refine s_iconst (v := (-1)) kx_285_37 (by decide) ?_
        exact s_iret kx_285_38 (Or.inl kq_285) ⟨_, rfl, rfl, (by unfold pWq; rw [if_neg (by omega)])⟩
      · replace v5p := v5p.resolve_right (by omega)
        refine s_aload_n kx_285_23 rfl ?_
        refine r_getR (k := 63) (f := 71) (k2 := 107) kx_285_24 kp_285_228 (tk_63 hT) kf_12_71 (by decide) (rq_63_71 hI) ?_
        refine s_bipush (v := 8) kx_285_27 (by decide) ?_
        refine s_iload_n kx_285_29 rfl ?_
        refine r_mul kx_285_30 ⟨by omega, by omega⟩ ?_
        refine s_iload_n kx_285_31 rfl ?_
        refine r_add kx_285_32 ⟨by omega, by omega⟩ ?_
        refine r_aldU (k := 107) kx_285_33 (tk_107 hT) ⟨by omega, by omega⟩ (fun v7 v7e => ?_)
        refine s_goto (t := 38) kx_285_34 (by decide) ?_
        exact s_iret kx_285_38 (Or.inl kq_285) ⟨_, rfl, rfl, (by unfold pWq; rw [if_pos (by omega)]; exact v7e.symm)⟩
