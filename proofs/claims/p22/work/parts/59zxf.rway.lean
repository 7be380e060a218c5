theorem g_222 {xs : Nat → Int} {Ln d : Nat} {T : List cK} {M : cM} (hT : TT T) (hI : Rng M) {set_ k : Int} (p0 : 0 ≤ set_ ∧ set_ ≤ 4095) (p1 : 0 ≤ k ∧ k ≤ 11) : cC k_P xs Ln (d + 0) 222 [(0, set_), (0, k)] (T, M) (qF T M 0 (fun v => (v = 1 ∧ set_.toNat / 2 ^ k.toNat % 2 = 1) ∨ (v = 0 ∧ set_.toNat / 2 ^ k.toNat % 2 = 0))) := by
  show cP k_P xs Ln (d + 0) 222 0 [(0, (0, set_)), (1, (0, k))] [] (T, M) _
  have hb := bit_eq (x := set_) (k := k) (by omega) (by omega)
  refine s_iload_n kx_222_0 rfl ?_
  refine s_iload_n kx_222_1 rfl ?_
  refine s_ishr (z := (tShr set_ k)) kx_222_2 rfl ?_
  refine s_iconst (v := 1) kx_222_3 (by decide) ?_
  refine s_iand (z := (tAnd (tShr set_ k) 1)) kx_222_4 rfl ?_
  refine s_iconst (v := 1) kx_222_5 (by decide) ?_
  refine s_icmp_ne (t := 13) kx_222_6 (by decide) (fun hc3 => ?_) (fun hc3 => ?_)
  · refine s_iconst (v := 0) kx_222_13 (by decide) ?_
    exact s_iret kx_222_14 (Or.inr ⟨kq_222, by omega⟩) ⟨_, rfl, rfl, (Or.inr ⟨rfl, by omega⟩)⟩
  · refine s_iconst (v := 1) kx_222_9 (by decide) ?_
    refine s_goto (t := 14) kx_222_10 (by decide) ?_
    exact s_iret kx_222_14 (Or.inr ⟨kq_222, by omega⟩) ⟨_, rfl, rfl, (Or.inl ⟨rfl, by omega⟩)⟩
def gR_275_l22 : List (Nat × Nat) := [(102, 99999), (63, 62), (63, 63), (63, 64)]
def gR_275_m : List (Nat × Nat) := [(102, 99999), (63, 62), (63, 63), (63, 64)]
theorem g_275 {xs : Nat → Int} {Ln d : Nat} {T : List cK} {M : cM} (hT : TT T) (hI : Rng M) {p many way : Int} {D S : cM} (hR : RR D S M) {s : Nat → Int} (hs : M 64 = s) {n : Int} (hE : pEt D S s p n = 1) (hmn : many = n / 2) (p0 : 0 ≤ p ∧ p ≤ 7) (p1 : 1 ≤ many ∧ many ≤ 12) (p2 : 0 ≤ way ∧ way ≤ 4095) (p3 : p < D 0 1) (p4 : way < 2 ^ many.toNat) : cC k_P xs Ln (d + 4) 275 [rf 63, (0, p), (0, many), (0, way)] (T, M) (qW T M gR_275_m 0 (fun v M1 => (-1) ≤ v ∧ v ≤ 12708 ∧ (v = pEr D S s p many.toNat 0 (S 1 p.toNat) way.toNat))) := by
  show cP k_P xs Ln (d + 4) 275 0 [(0, rf 63), (1, (0, p)), (2, (0, many)), (3, (0, way))] [] (T, M) _
  have hFm : Fr gR_275_m M M := Fr.refl
  have hD := hR.2.1
  have hDr := hD.rg
  have hSW := hR.2.2.2.2.1
  refine s_aload_n kx_275_0 rfl ?_
  refine r_getR (k := 63) (f := 48) (k2 := 92) kx_275_1 kp_275_159 (tk_63 hT) kf_12_48 (by decide) (rq_63_48 hI) ?_
  refine s_iload_n kx_275_4 rfl ?_
  refine r_ald (k := 92) kx_275_5 (tk_92 hT) ⟨by omega, by omega⟩ (rg_92 hI (by omega)) (fun v1 v1e v1a v1b => ?_)
  have v1d := (RR.rm hR (p := p) ⟨by omega, by omega⟩ (by omega)).symm.trans v1e
  have v1w := (hR).2.2.2.2.1.at (p := p) ⟨by omega, by omega⟩
  refine s_istore kx_275_6 km_275_4 rfl ?_
  refine s_aload_n kx_275_8 rfl ?_
  refine r_getR (k := 63) (f := 49) (k2 := 93) kx_275_9 kp_275_162 (tk_63 hT) kf_12_49 (by decide) (rq_63_49 hI) ?_
  refine s_iload_n kx_275_12 rfl ?_
  refine r_ald (k := 93) kx_275_13 (tk_93 hT) ⟨by omega, by omega⟩ (rg_93 hI (by omega)) (fun v2 v2e v2a v2b => ?_)
  have v2d := (RR.ch hR (p := p) ⟨by omega, by omega⟩ (by omega)).symm.trans v2e
  have v2w := (hR).2.2.2.2.1.at (p := p) ⟨by omega, by omega⟩
  refine s_istore kx_275_14 km_275_5 rfl ?_
  refine s_iconst (v := 0) kx_275_16 (by decide) ?_
  refine s_istore kx_275_17 km_275_6 rfl ?_
  refine s_iconst (v := 0) kx_275_19 (by decide) ?_
  refine s_istore kx_275_20 km_275_7 rfl ?_
  have key8 : ∀ n9 : Nat, ∀ (x4_3 x5_4 x6_5 x7_6 : Int), ∀ M7 : cM, Rng M7 → Fr gR_275_m M M7 → Fr gR_275_l22 M M7 → (0 ≤ x4_3) → (x4_3 ≤ 7) → (0 ≤ x5_4) → (x5_4 ≤ 7) → (0 ≤ x6_5) → (x6_5 ≤ 12708) → (0 ≤ x7_6) → (x7_6 ≤ 12) → (x7_6 ≤ many) → (x4_3 < D 0 0) → (x5_4 < D 0 0) → (x6_5 ≤ 1059 * x7_6) → (x4_3 = pAk S s p (x7_6).toNat) → (pEr D S s p many.toNat 0 (S 1 p.toNat) way.toNat = pPl x6_5 (pEr D S s p (many - x7_6).toNat (x7_6).toNat x5_4 (way.toNat % 2 ^ (many - x7_6).toNat))) → (2147483647 - x7_6).toNat < n9 → cP k_P xs Ln (d + 4) 275 22 [(0, rf 63), (1, (0, p)), (2, (0, many)), (3, (0, way)), (4, (0, x4_3)), (5, (0, x5_4)), (6, (0, x6_5)), (7, (0, x7_6))] [] (T, M7) (qW T M gR_275_m 0 (fun v M1 => (-1) ≤ v ∧ v ≤ 12708 ∧ (v = pEr D S s p many.toNat 0 (S 1 p.toNat) way.toNat))) := by
    intro n9
    induction n9 with
    | zero => intro x4_3 x5_4 x6_5 x7_6 M7 hI7 hFm7 fl7 i10 i11 i12 i13 i14 i15 i16 i17 i18 i19 i20 i21 i22 i23 hm24; exact absurd hm24 (Nat.not_lt_zero _)
    | succ n9 ih25 =>
      intro x4_3 x5_4 x6_5 x7_6 M7 hI7 hFm7 fl7 i10 i11 i12 i13 i14 i15 i16 i17 i18 i19 i20 i21 i22 i23 hm24
      refine s_iload kx_275_22 rfl ?_
      refine s_iload_n kx_275_24 rfl ?_
      refine s_icmp_ge (t := 213) kx_275_25 (by decide) (fun hc26 => ?_) (fun hc26 => ?_)
      · refine s_iload kx_275_213 rfl ?_
        exact s_iret kx_275_215 (Or.inl kq_275) ⟨_, _, rfl, rfl, hI7, hFm7, ⟨by omega, by omega, (by have h9 := i23; rw [show x7_6 = many by omega, show (many - many).toNat = 0 by omega] at h9; have h8 : pEr D S s p 0 many.toNat x5_4 (way.toNat % 2 ^ 0) = 0 := rfl; rw [h8] at h9; unfold pPl at h9; rw [if_neg (by decide)] at h9; omega)⟩⟩
      · refine s_aload_n kx_275_28 rfl ?_
        refine r_getR (k := 63) (f := 0) (k2 := 64) kx_275_29 kp_275_7 (tk_63 hT) kf_12_0 (by decide) (rq_63_0 hI7) ?_
        refine s_iconst (v := 2) kx_275_32 (by decide) ?_
        refine s_iload kx_275_33 rfl ?_
        refine r_mul kx_275_35 ⟨by omega, by omega⟩ ?_
        refine r_ald (k := 64) kx_275_36 (tk_64 hT) ⟨by omega, by omega⟩ (rg_64 hI7) (fun v27 v27e v27a v27b => ?_)
        have v27r : s ((2 * x7_6)).toNat = v27 := (congrFun hs ((2 * x7_6)).toNat).symm.trans (((fl7 64 _ rfl)).symm.trans v27e)
        have v27k : s (2 * (x7_6).toNat) = v27 := (congrArg s (by omega)).trans v27r
        have htw := pEt_w hD hE (k := (x7_6).toNat) (by omega)
        have htr := pWk_r hD htw.1
        have v27o := htr.2.1
        rw [v27k] at v27o
        refine s_istore kx_275_37 km_275_8 rfl ?_
        refine s_iload_n kx_275_39 rfl ?_
        refine s_iload_n kx_275_40 rfl ?_
        refine s_iconst (v := 1) kx_275_41 (by decide) ?_
        refine r_sub kx_275_42 ⟨by omega, by omega⟩ ?_
        refine s_iload kx_275_43 rfl ?_
        refine r_sub kx_275_45 ⟨by omega, by omega⟩ ?_
        refine s_callS2 (s1 := 2) (s2 := 0) (as := [(0, ((many - 1) - x7_6)), (0, way)]) (rest := []) kx_275_46 kp_275_585 rfl kcl_222 rfl rfl (by decide) (g_222 (d := d + 3) (set_ := way) (k := ((many - 1) - x7_6)) hT hI7 (by omega) (by omega)) (kF (fun v28 v28p => ?_))
        refine s_istore kx_275_49 km_275_9 rfl ?_
        refine s_iload kx_275_51 rfl ?_
        refine s_if_eq (t := 85) kx_275_53 (by decide) (fun hc29 => ?_) (fun hc29 => ?_)
        · replace v28p := v28p.resolve_left (by omega)
          refine s_iload kx_275_85 rfl ?_
          refine s_iload kx_275_87 rfl ?_
          refine s_if_eq (t := 109) kx_275_89 (by decide) (fun hc30 => ?_) (fun hc30 => absurd hc30 (by omega))
          refine s_aload_n kx_275_109 rfl ?_
          refine s_iload kx_275_110 rfl ?_
          refine s_iload kx_275_112 rfl ?_
          refine s_callV2 (k := 63) (s1 := 3) (s2 := 1) (as := [(0, v27), (0, x4_3)]) (rest := [(0, x6_5)]) kx_275_114 kp_275_511 (Or.inl rfl) rfl (tk_63 hT) ki_245 kcl_245 rfl rfl (by decide) (g_245 (d := d + 3) (a := x4_3) (b := v27) hT hI7 (RR.fr hR fl7 rfl) (by omega) (by omega) (by omega) (by omega)) (kF (fun v31 v31p => ?_))
          have v31q : v31 = pWk D S s p (x7_6).toNat := by unfold pWk; rw [v27k, ← i22]; exact v31p.2.2
          have v31n := htw.1
          rw [← v31q] at v31n
          refine r_add kx_275_117 ⟨by omega, by omega⟩ ?_
          refine s_istore kx_275_118 km_275_6 rfl ?_
          refine s_iload kx_275_120 rfl ?_
          refine s_if_eq (t := 130) kx_275_122 (by decide) (fun hc32 => ?_) (fun hc32 => absurd hc32 (by omega))
          refine s_iload kx_275_130 rfl ?_
          refine s_istore kx_275_132 km_275_5 rfl ?_
          refine s_iload kx_275_134 rfl ?_
          refine s_istore kx_275_136 km_275_4 rfl ?_
          refine s_iload kx_275_138 rfl ?_
          refine s_iload kx_275_140 rfl ?_
          refine s_icmp_ne (t := 182) kx_275_142 (by decide) (fun hc33 => ?_) (fun hc33 => ?_)
          · refine s_iconst (v := 0) kx_275_182 (by decide) ?_
            refine s_istore kx_275_183 km_275_10 rfl ?_
            refine s_aload_n kx_275_185 rfl ?_
            refine r_getR (k := 63) (f := 0) (k2 := 64) kx_275_186 kp_275_7 (tk_63 hT) kf_12_0 (by decide) (rq_63_0 hI7) ?_
            refine s_iconst (v := 2) kx_275_189 (by decide) ?_
            refine s_iload kx_275_190 rfl ?_
            refine r_mul kx_275_192 ⟨by omega, by omega⟩ ?_
            refine s_iconst (v := 1) kx_275_193 (by decide) ?_
            refine r_add kx_275_194 ⟨by omega, by omega⟩ ?_
            refine r_ald (k := 64) kx_275_195 (tk_64 hT) ⟨by omega, by omega⟩ (rg_64 hI7) (fun v34 v34e v34a v34b => ?_)
            have v34r : s (((2 * x7_6) + 1)).toNat = v34 := (congrFun hs (((2 * x7_6) + 1)).toNat).symm.trans (((fl7 64 _ rfl)).symm.trans v34e)
            have v34k : s (2 * (x7_6).toNat + 1) = v34 := (congrArg s (by omega)).trans v34r
            refine s_iconst (v := 1) kx_275_196 (by decide) ?_
            refine s_icmp_ne (t := 207) kx_275_197 (by decide) (fun hc35 => ?_) (fun hc35 => ?_)
            · refine r_iinc kx_275_207 rfl km_275_7 (by decide) ⟨by omega, by omega⟩ rfl ?_
              refine s_goto (t := 22) kx_275_210 (by decide) ?_
              exact cP.wk (lS1 rfl (lS1 rfl (lS1 rfl (lS1 rfl (lS1 rfl (lS1 rfl (lS1 rfl (lS1 rfl lS0)))))))) (ih25 v27 x5_4 (x6_5 + v31) (x7_6 + 1) M7 hI7 hFm7 fl7 (by omega) (by omega) (by omega) (by omega) (by omega) (by omega) (by omega) (by omega) (by omega) (by omega) (by omega) (by omega) (by unfold pAk; rw [if_neg (by omega), show 2 * (x7_6 + 1).toNat - 2 = 2 * (x7_6).toNat by omega]; exact v27k.symm) (eb_3 hD (z := x5_4) i23 ⟨by omega, by omega⟩ (Or.inr ⟨by omega, rfl, v31q⟩) (fun hm => by have h8 := hm; rw [v34k] at h8; rw [v27k]; unfold pSi; first | (exfalso; omega) | (exact if_pos (by omega))) (by omega)) (by omega))
            · refine s_iload kx_275_200 rfl ?_
              refine s_if_ne (t := 207) kx_275_202 (by decide) (fun hc36 => absurd hc36 (by decide)) (fun hc36 => ?_)
              refine s_iconst (v := (-1)) kx_275_205 (by decide) ?_
              exact s_iret kx_275_206 (Or.inl kq_275) ⟨_, _, rfl, rfl, hI7, hFm7, ⟨by omega, by omega, (eb_2 (z := x5_4) i23 ⟨by omega, by omega⟩ (Or.inr ⟨by omega, rfl⟩) (fun z => by have h9 := z (v34k.trans (by omega)); rw [v27k] at h9; unfold pSi at h9; rw [if_neg (by omega)] at h9; omega)).symm⟩⟩
          · refine s_aload_n kx_275_145 rfl ?_
            refine r_getR (k := 63) (f := 50) (k2 := 94) kx_275_146 kp_275_165 (tk_63 hT) kf_12_50 (by decide) (rq_63_50 hI7) ?_
            refine s_iload_n kx_275_149 rfl ?_
            refine r_aldU (k := 94) kx_275_150 (tk_94 hT) ⟨by omega, by omega⟩ (fun v37 v37e => ?_)
            have v37d := (RR.br (RR.fr hR fl7 rfl) (p := p) ⟨by omega, by omega⟩ (by omega)).symm.trans v37e
            have v37w := ((RR.fr hR fl7 rfl)).2.2.2.2.1.at (p := p) ⟨by omega, by omega⟩
            refine s_if_ne (t := 182) kx_275_151 (by decide) (fun hc38 => ?_) (fun hc38 => ?_)
            · refine s_iconst (v := 0) kx_275_182 (by decide) ?_
              refine s_istore kx_275_183 km_275_10 rfl ?_
              refine s_aload_n kx_275_185 rfl ?_
              refine r_getR (k := 63) (f := 0) (k2 := 64) kx_275_186 kp_275_7 (tk_63 hT) kf_12_0 (by decide) (rq_63_0 hI7) ?_
              refine s_iconst (v := 2) kx_275_189 (by decide) ?_
              refine s_iload kx_275_190 rfl ?_
              refine r_mul kx_275_192 ⟨by omega, by omega⟩ ?_
              refine s_iconst (v := 1) kx_275_193 (by decide) ?_
              refine r_add kx_275_194 ⟨by omega, by omega⟩ ?_
              refine r_ald (k := 64) kx_275_195 (tk_64 hT) ⟨by omega, by omega⟩ (rg_64 hI7) (fun v39 v39e v39a v39b => ?_)
              have v39r : s (((2 * x7_6) + 1)).toNat = v39 := (congrFun hs (((2 * x7_6) + 1)).toNat).symm.trans (((fl7 64 _ rfl)).symm.trans v39e)
              have v39k : s (2 * (x7_6).toNat + 1) = v39 := (congrArg s (by omega)).trans v39r
              refine s_iconst (v := 1) kx_275_196 (by decide) ?_
              refine s_icmp_ne (t := 207) kx_275_197 (by decide) (fun hc40 => ?_) (fun hc40 => ?_)
              · refine r_iinc kx_275_207 rfl km_275_7 (by decide) ⟨by omega, by omega⟩ rfl ?_
                refine s_goto (t := 22) kx_275_210 (by decide) ?_
                exact cP.wk (lS1 rfl (lS1 rfl (lS1 rfl (lS1 rfl (lS1 rfl (lS1 rfl (lS1 rfl (lS1 rfl lS0)))))))) (ih25 v27 x5_4 (x6_5 + v31) (x7_6 + 1) M7 hI7 hFm7 fl7 (by omega) (by omega) (by omega) (by omega) (by omega) (by omega) (by omega) (by omega) (by omega) (by omega) (by omega) (by omega) (by unfold pAk; rw [if_neg (by omega), show 2 * (x7_6 + 1).toNat - 2 = 2 * (x7_6).toNat by omega]; exact v27k.symm) (eb_3 hD (z := x5_4) i23 ⟨by omega, by omega⟩ (Or.inr ⟨by omega, rfl, v31q⟩) (fun hm => by have h8 := hm; rw [v39k] at h8; rw [v27k]; unfold pSi; first | (exfalso; omega) | (exact if_pos (by omega))) (by omega)) (by omega))
              · refine s_iload kx_275_200 rfl ?_
                refine s_if_ne (t := 207) kx_275_202 (by decide) (fun hc41 => absurd hc41 (by decide)) (fun hc41 => ?_)
                refine s_iconst (v := (-1)) kx_275_205 (by decide) ?_
                exact s_iret kx_275_206 (Or.inl kq_275) ⟨_, _, rfl, rfl, hI7, hFm7, ⟨by omega, by omega, (eb_2 (z := x5_4) i23 ⟨by omega, by omega⟩ (Or.inr ⟨by omega, rfl⟩) (fun z => by have h9 := z (v39k.trans (by omega)); rw [v27k] at h9; unfold pSi at h9; rw [if_neg (by omega)] at h9; omega)).symm⟩⟩
            · refine s_aload_n kx_275_154 rfl ?_
              refine s_iload_n kx_275_155 rfl ?_
              refine s_callV2 (k := 63) (s1 := 2) (s2 := 0) (as := [(0, p)]) (rest := []) kx_275_156 kp_275_487 (Or.inl rfl) rfl (tk_63 hT) ki_238 kcl_238 rfl rfl (by decide) (g_238 (d := d + 3) (p := p) hT hI7 (RR.fr hR fl7 rfl) (by omega) (by omega)) (kF (fun v42 v42p => ?_))
              refine s_iconst (v := (-1)) kx_275_159 (by decide) ?_
              refine s_icmp_eq (t := 178) kx_275_160 (by decide) (fun hc43 => ?_) (fun hc43 => ?_)
              · refine s_iconst (v := 1) kx_275_178 (by decide) ?_
                refine s_goto (t := 183) kx_275_179 (by decide) ?_
                refine s_istore kx_275_183 km_275_10 rfl ?_
                refine s_aload_n kx_275_185 rfl ?_
                refine r_getR (k := 63) (f := 0) (k2 := 64) kx_275_186 kp_275_7 (tk_63 hT) kf_12_0 (by decide) (rq_63_0 hI7) ?_
                refine s_iconst (v := 2) kx_275_189 (by decide) ?_
                refine s_iload kx_275_190 rfl ?_
                refine r_mul kx_275_192 ⟨by omega, by omega⟩ ?_
                refine s_iconst (v := 1) kx_275_193 (by decide) ?_
                refine r_add kx_275_194 ⟨by omega, by omega⟩ ?_
                refine r_ald (k := 64) kx_275_195 (tk_64 hT) ⟨by omega, by omega⟩ (rg_64 hI7) (fun v44 v44e v44a v44b => ?_)
                have v44r : s (((2 * x7_6) + 1)).toNat = v44 := (congrFun hs (((2 * x7_6) + 1)).toNat).symm.trans (((fl7 64 _ rfl)).symm.trans v44e)
                have v44k : s (2 * (x7_6).toNat + 1) = v44 := (congrArg s (by omega)).trans v44r
                refine s_iconst (v := 1) kx_275_196 (by decide) ?_
                refine s_icmp_ne (t := 207) kx_275_197 (by decide) (fun hc45 => ?_) (fun hc45 => ?_)
                · refine r_iinc kx_275_207 rfl km_275_7 (by decide) ⟨by omega, by omega⟩ rfl ?_
                  refine s_goto (t := 22) kx_275_210 (by decide) ?_
                  exact cP.wk (lS1 rfl (lS1 rfl (lS1 rfl (lS1 rfl (lS1 rfl (lS1 rfl (lS1 rfl (lS1 rfl lS0)))))))) (ih25 v27 x5_4 (x6_5 + v31) (x7_6 + 1) M7 hI7 hFm7 fl7 (by omega) (by omega) (by omega) (by omega) (by omega) (by omega) (by omega) (by omega) (by omega) (by omega) (by omega) (by omega) (by unfold pAk; rw [if_neg (by omega), show 2 * (x7_6 + 1).toNat - 2 = 2 * (x7_6).toNat by omega]; exact v27k.symm) (eb_3 hD (z := x5_4) i23 ⟨by omega, by omega⟩ (Or.inr ⟨by omega, rfl, v31q⟩) (fun hm => by have h8 := hm; rw [v44k] at h8; rw [v27k]; unfold pSi; first | (exfalso; omega) | (rw [← v42p.2.2.1]; exact if_pos (by omega))) (by omega)) (by omega))
                · refine s_iload kx_275_200 rfl ?_
                  refine s_if_ne (t := 207) kx_275_202 (by decide) (fun hc46 => ?_) (fun hc46 => absurd hc46 (by decide))
                  refine r_iinc kx_275_207 rfl km_275_7 (by decide) ⟨by omega, by omega⟩ rfl ?_
                  refine s_goto (t := 22) kx_275_210 (by decide) ?_
                  exact cP.wk (lS1 rfl (lS1 rfl (lS1 rfl (lS1 rfl (lS1 rfl (lS1 rfl (lS1 rfl (lS1 rfl lS0)))))))) (ih25 v27 x5_4 (x6_5 + v31) (x7_6 + 1) M7 hI7 hFm7 fl7 (by omega) (by omega) (by omega) (by omega) (by omega) (by omega) (by omega) (by omega) (by omega) (by omega) (by omega) (by omega) (by unfold pAk; rw [if_neg (by omega), show 2 * (x7_6 + 1).toNat - 2 = 2 * (x7_6).toNat by omega]; exact v27k.symm) (eb_3 hD (z := x5_4) i23 ⟨by omega, by omega⟩ (Or.inr ⟨by omega, rfl, v31q⟩) (fun hm => by have h8 := hm; rw [v44k] at h8; rw [v27k]; unfold pSi; first | (exfalso; omega) | (rw [← v42p.2.2.1]; exact if_pos (by omega))) (by omega)) (by omega))
              · refine s_aload_n kx_275_163 rfl ?_
                refine r_getR (k := 63) (f := 49) (k2 := 93) kx_275_164 kp_275_162 (tk_63 hT) kf_12_49 (by decide) (rq_63_49 hI7) ?_
                refine s_aload_n kx_275_167 rfl ?_
                refine s_iload_n kx_275_168 rfl ?_
                refine s_callV2 (k := 63) (s1 := 2) (s2 := 1) (as := [(0, p)]) (rest := [rf 93]) kx_275_169 kp_275_487 (Or.inl rfl) rfl (tk_63 hT) ki_238 kcl_238 rfl rfl (by decide) (g_238 (d := d + 3) (p := p) hT hI7 (RR.fr hR fl7 rfl) (by omega) (by omega)) (kF (fun v47 v47p => ?_))
                refine r_ald (k := 93) kx_275_172 (tk_93 hT) ⟨by omega, by omega⟩ (rg_93 hI7 (by omega)) (fun v48 v48e v48a v48b => ?_)
                have v48d := (RR.ch (RR.fr hR fl7 rfl) (p := v47) ⟨by omega, by omega⟩ (by omega)).symm.trans v48e
                have v48w := ((RR.fr hR fl7 rfl)).2.2.2.2.1.at (p := v47) ⟨by omega, by omega⟩
                refine s_iload kx_275_173 rfl ?_
                refine s_icmp_ne (t := 182) kx_275_175 (by decide) (fun hc49 => ?_) (fun hc49 => ?_)
                · refine s_iconst (v := 0) kx_275_182 (by decide) ?_
                  refine s_istore kx_275_183 km_275_10 rfl ?_
                  refine s_aload_n kx_275_185 rfl ?_
                  refine r_getR (k := 63) (f := 0) (k2 := 64) kx_275_186 kp_275_7 (tk_63 hT) kf_12_0 (by decide) (rq_63_0 hI7) ?_
                  refine s_iconst (v := 2) kx_275_189 (by decide) ?_
                  refine s_iload kx_275_190 rfl ?_
                  refine r_mul kx_275_192 ⟨by omega, by omega⟩ ?_
                  refine s_iconst (v := 1) kx_275_193 (by decide) ?_
                  refine r_add kx_275_194 ⟨by omega, by omega⟩ ?_
                  refine r_ald (k := 64) kx_275_195 (tk_64 hT) ⟨by omega, by omega⟩ (rg_64 hI7) (fun v50 v50e v50a v50b => ?_)
                  have v50r : s (((2 * x7_6) + 1)).toNat = v50 := (congrFun hs (((2 * x7_6) + 1)).toNat).symm.trans (((fl7 64 _ rfl)).symm.trans v50e)
                  have v50k : s (2 * (x7_6).toNat + 1) = v50 := (congrArg s (by omega)).trans v50r
                  refine s_iconst (v := 1) kx_275_196 (by decide) ?_
                  refine s_icmp_ne (t := 207) kx_275_197 (by decide) (fun hc51 => ?_) (fun hc51 => ?_)
                  · refine r_iinc kx_275_207 rfl km_275_7 (by decide) ⟨by omega, by omega⟩ rfl ?_
                    refine s_goto (t := 22) kx_275_210 (by decide) ?_
                    exact cP.wk (lS1 rfl (lS1 rfl (lS1 rfl (lS1 rfl (lS1 rfl (lS1 rfl (lS1 rfl (lS1 rfl lS0)))))))) (ih25 v27 x5_4 (x6_5 + v31) (x7_6 + 1) M7 hI7 hFm7 fl7 (by omega) (by omega) (by omega) (by omega) (by omega) (by omega) (by omega) (by omega) (by omega) (by omega) (by omega) (by omega) (by unfold pAk; rw [if_neg (by omega), show 2 * (x7_6 + 1).toNat - 2 = 2 * (x7_6).toNat by omega]; exact v27k.symm) (eb_3 hD (z := x5_4) i23 ⟨by omega, by omega⟩ (Or.inr ⟨by omega, rfl, v31q⟩) (fun hm => by have h8 := hm; rw [v50k] at h8; rw [v27k]; unfold pSi; first | (exfalso; omega) | (rw [← v47p.2.2.1]; exact if_pos (by omega))) (by omega)) (by omega))
                  · refine s_iload kx_275_200 rfl ?_
                    refine s_if_ne (t := 207) kx_275_202 (by decide) (fun hc52 => absurd hc52 (by decide)) (fun hc52 => ?_)
                    refine s_iconst (v := (-1)) kx_275_205 (by decide) ?_
                    exact s_iret kx_275_206 (Or.inl kq_275) ⟨_, _, rfl, rfl, hI7, hFm7, ⟨by omega, by omega, (eb_2 (z := x5_4) i23 ⟨by omega, by omega⟩ (Or.inr ⟨by omega, rfl⟩) (fun z => by have h9 := z (v50k.trans (by omega)); rw [v27k] at h9; unfold pSi at h9; rw [← v47p.2.2.1] at h9; rw [if_neg (by omega)] at h9; omega)).symm⟩⟩
                · refine s_iconst (v := 1) kx_275_178 (by decide) ?_
                  refine s_goto (t := 183) kx_275_179 (by decide) ?_
                  refine s_istore kx_275_183 km_275_10 rfl ?_
                  refine s_aload_n kx_275_185 rfl ?_
                  refine r_getR (k := 63) (f := 0) (k2 := 64) kx_275_186 kp_275_7 (tk_63 hT) kf_12_0 (by decide) (rq_63_0 hI7) ?_
                  refine s_iconst (v := 2) kx_275_189 (by decide) ?_
                  refine s_iload kx_275_190 rfl ?_
                  refine r_mul kx_275_192 ⟨by omega, by omega⟩ ?_
                  refine s_iconst (v := 1) kx_275_193 (by decide) ?_
                  refine r_add kx_275_194 ⟨by omega, by omega⟩ ?_
                  refine r_ald (k := 64) kx_275_195 (tk_64 hT) ⟨by omega, by omega⟩ (rg_64 hI7) (fun v53 v53e v53a v53b => ?_)
                  have v53r : s (((2 * x7_6) + 1)).toNat = v53 := (congrFun hs (((2 * x7_6) + 1)).toNat).symm.trans (((fl7 64 _ rfl)).symm.trans v53e)
                  have v53k : s (2 * (x7_6).toNat + 1) = v53 := (congrArg s (by omega)).trans v53r
                  refine s_iconst (v := 1) kx_275_196 (by decide) ?_
                  refine s_icmp_ne (t := 207) kx_275_197 (by decide) (fun hc54 => ?_) (fun hc54 => ?_)
                  · refine r_iinc kx_275_207 rfl km_275_7 (by decide) ⟨by omega, by omega⟩ rfl ?_
                    refine s_goto (t := 22) kx_275_210 (by decide) ?_
                    exact cP.wk (lS1 rfl (lS1 rfl (lS1 rfl (lS1 rfl (lS1 rfl (lS1 rfl (lS1 rfl (lS1 rfl lS0)))))))) (ih25 v27 x5_4 (x6_5 + v31) (x7_6 + 1) M7 hI7 hFm7 fl7 (by omega) (by omega) (by omega) (by omega) (by omega) (by omega) (by omega) (by omega) (by omega) (by omega) (by omega) (by omega) (by unfold pAk; rw [if_neg (by omega), show 2 * (x7_6 + 1).toNat - 2 = 2 * (x7_6).toNat by omega]; exact v27k.symm) (eb_3 hD (z := x5_4) i23 ⟨by omega, by omega⟩ (Or.inr ⟨by omega, rfl, v31q⟩) (fun hm => by have h8 := hm; rw [v53k] at h8; rw [v27k]; unfold pSi; first | (exfalso; omega) | (rw [← v47p.2.2.1]; exact if_pos (by omega))) (by omega)) (by omega))
                  · refine s_iload kx_275_200 rfl ?_
                    refine s_if_ne (t := 207) kx_275_202 (by decide) (fun hc55 => ?_) (fun hc55 => absurd hc55 (by decide))
                    refine r_iinc kx_275_207 rfl km_275_7 (by decide) ⟨by omega, by omega⟩ rfl ?_
                    refine s_goto (t := 22) kx_275_210 (by decide) ?_
                    exact cP.wk (lS1 rfl (lS1 rfl (lS1 rfl (lS1 rfl (lS1 rfl (lS1 rfl (lS1 rfl (lS1 rfl lS0)))))))) (ih25 v27 x5_4 (x6_5 + v31) (x7_6 + 1) M7 hI7 hFm7 fl7 (by omega) (by omega) (by omega) (by omega) (by omega) (by omega) (by omega) (by omega) (by omega) (by omega) (by omega) (by omega) (by unfold pAk; rw [if_neg (by omega), show 2 * (x7_6 + 1).toNat - 2 = 2 * (x7_6).toNat by omega]; exact v27k.symm) (eb_3 hD (z := x5_4) i23 ⟨by omega, by omega⟩ (Or.inr ⟨by omega, rfl, v31q⟩) (fun hm => by have h8 := hm; rw [v53k] at h8; rw [v27k]; unfold pSi; first | (exfalso; omega) | (rw [← v47p.2.2.1]; exact if_pos (by omega))) (by omega)) (by omega))
        · replace v28p := v28p.resolve_right (by omega)
          refine s_iload kx_275_56 rfl ?_
          refine s_iload kx_275_58 rfl ?_
          refine s_icmp_ne (t := 83) kx_275_60 (by decide) (fun hc56 => ?_) (fun hc56 => ?_)
          · refine s_iconst (v := (-1)) kx_275_83 (by decide) ?_
            exact s_iret kx_275_84 (Or.inl kq_275) ⟨_, _, rfl, rfl, hI7, hFm7, ⟨by omega, by omega, (eb_1 i23 ⟨by omega, by omega⟩ (by omega) (fun z => by have h9 := z.2.2; rw [v27k] at h9; have h8 := z.1; rw [← i22] at h8; have h7 := z.2.1; omega)).symm⟩⟩
          · refine s_aload_n kx_275_63 rfl ?_
            refine r_getR (k := 63) (f := 50) (k2 := 94) kx_275_64 kp_275_165 (tk_63 hT) kf_12_50 (by decide) (rq_63_50 hI7) ?_
            refine s_iload_n kx_275_67 rfl ?_
            refine r_aldU (k := 94) kx_275_68 (tk_94 hT) ⟨by omega, by omega⟩ (fun v57 v57e => ?_)
            have v57d := (RR.br (RR.fr hR fl7 rfl) (p := p) ⟨by omega, by omega⟩ (by omega)).symm.trans v57e
            have v57w := ((RR.fr hR fl7 rfl)).2.2.2.2.1.at (p := p) ⟨by omega, by omega⟩
            refine s_iconst (v := 1) kx_275_69 (by decide) ?_
            refine s_icmp_eq (t := 83) kx_275_70 (by decide) (fun hc58 => ?_) (fun hc58 => ?_)
            · refine s_iconst (v := (-1)) kx_275_83 (by decide) ?_
              exact s_iret kx_275_84 (Or.inl kq_275) ⟨_, _, rfl, rfl, hI7, hFm7, ⟨by omega, by omega, (eb_1 i23 ⟨by omega, by omega⟩ (by omega) (fun z => by have h9 := z.2.2; rw [v27k] at h9; have h8 := z.1; rw [← i22] at h8; have h7 := z.2.1; omega)).symm⟩⟩
            · refine s_aload_n kx_275_73 rfl ?_
              refine s_iload_n kx_275_74 rfl ?_
              refine s_iload kx_275_75 rfl ?_
              refine s_callV2 (k := 63) (s1 := 3) (s2 := 0) (as := [(0, v27), (0, p)]) (rest := []) kx_275_77 kp_275_517 (Or.inl rfl) rfl (tk_63 hT) ki_242 kcl_242 rfl rfl (by decide) (g_242 (d := d) (c := p) (r := v27) hT hI7 (RR.fr hR fl7 rfl) (by omega) (by omega) (by omega) (by omega)) (kF (fun v59 v59p => ?_))
              refine s_if_ne (t := 85) kx_275_80 (by decide) (fun hc60 => ?_) (fun hc60 => ?_)
              · replace v59p := v59p.resolve_right (by omega)
                refine s_iload kx_275_85 rfl ?_
                refine s_iload kx_275_87 rfl ?_
                refine s_if_eq (t := 109) kx_275_89 (by decide) (fun hc61 => absurd hc61 (by omega)) (fun hc61 => ?_)
                refine s_aload_n kx_275_92 rfl ?_
                refine s_iload_n kx_275_93 rfl ?_
                refine s_iload_n kx_275_94 rfl ?_
                refine s_aload_n kx_275_95 rfl ?_
                refine s_iload kx_275_96 rfl ?_
                refine s_iload kx_275_98 rfl ?_
                refine s_callV2 (k := 63) (s1 := 3) (s2 := 4) (as := [(0, v27), (0, x4_3)]) (rest := [(0, p), (0, p), rf 63, (0, x6_5)]) kx_275_100 kp_275_511 (Or.inl rfl) rfl (tk_63 hT) ki_245 kcl_245 rfl rfl (by decide) (g_245 (d := d + 3) (a := x4_3) (b := v27) hT hI7 (RR.fr hR fl7 rfl) (by omega) (by omega) (by omega) (by omega)) (kF (fun v62 v62p => ?_))
                have v62q : v62 = pWk D S s p (x7_6).toNat := by unfold pWk; rw [v27k, ← i22]; exact v62p.2.2
                have v62n := htw.1
                rw [← v62q] at v62n
                refine s_callV2 (k := 63) (s1 := 4) (s2 := 1) (as := [(0, v62), (0, p), (0, p)]) (rest := [(0, x6_5)]) kx_275_103 kp_275_523 (Or.inl rfl) rfl (tk_63 hT) ki_235 kcl_235 rfl rfl (by decide) (g_235 (d := d) (p := p) (chair := p) (takes := v62) hT hI7 (RR.fr hR fl7 rfl) (by omega) (by omega) (by omega) (by omega) (by omega)) (kW (fun v63 M64 hI64 fr64 v63p => ?_))
                have hFm64 := hFm7.call fr64 rfl
                have hFl2264 := fl7.call fr64 rfl
                have v63q : v63 = pCy D S p p (pWk D S s p (x7_6).toNat) := by have h9 := v63p.2.2; rw [v62q] at h9; exact h9
                refine s_goto (t := 117) kx_275_106 (by decide) ?_
                refine r_add kx_275_117 ⟨by omega, by omega⟩ ?_
                refine s_istore kx_275_118 km_275_6 rfl ?_
                refine s_iload kx_275_120 rfl ?_
                refine s_if_eq (t := 130) kx_275_122 (by decide) (fun hc65 => absurd hc65 (by omega)) (fun hc65 => ?_)
                refine s_iload kx_275_125 rfl ?_
                refine s_goto (t := 132) kx_275_127 (by decide) ?_
                refine s_istore kx_275_132 km_275_5 rfl ?_
                refine s_iload kx_275_134 rfl ?_
                refine s_istore kx_275_136 km_275_4 rfl ?_
                refine s_iload kx_275_138 rfl ?_
                refine s_iload kx_275_140 rfl ?_
                refine s_icmp_ne (t := 182) kx_275_142 (by decide) (fun hc66 => ?_) (fun hc66 => ?_)
                · refine s_iconst (v := 0) kx_275_182 (by decide) ?_
                  refine s_istore kx_275_183 km_275_10 rfl ?_
                  refine s_aload_n kx_275_185 rfl ?_
                  refine r_getR (k := 63) (f := 0) (k2 := 64) kx_275_186 kp_275_7 (tk_63 hT) kf_12_0 (by decide) (rq_63_0 hI64) ?_
                  refine s_iconst (v := 2) kx_275_189 (by decide) ?_
                  refine s_iload kx_275_190 rfl ?_
                  refine r_mul kx_275_192 ⟨by omega, by omega⟩ ?_
                  refine s_iconst (v := 1) kx_275_193 (by decide) ?_
                  refine r_add kx_275_194 ⟨by omega, by omega⟩ ?_
                  refine r_ald (k := 64) kx_275_195 (tk_64 hT) ⟨by omega, by omega⟩ (rg_64 hI64) (fun v67 v67e v67a v67b => ?_)
                  have v67r : s (((2 * x7_6) + 1)).toNat = v67 := (congrFun hs (((2 * x7_6) + 1)).toNat).symm.trans ((((fr64 64 _ rfl).trans (fl7 64 _ rfl))).symm.trans v67e)
                  have v67k : s (2 * (x7_6).toNat + 1) = v67 := (congrArg s (by omega)).trans v67r
                  refine s_iconst (v := 1) kx_275_196 (by decide) ?_
                  refine s_icmp_ne (t := 207) kx_275_197 (by decide) (fun hc68 => ?_) (fun hc68 => ?_)
                  · refine r_iinc kx_275_207 rfl km_275_7 (by decide) ⟨by omega, by omega⟩ rfl ?_
                    refine s_goto (t := 22) kx_275_210 (by decide) ?_
                    exact cP.wk (lS1 rfl (lS1 rfl (lS1 rfl (lS1 rfl (lS1 rfl (lS1 rfl (lS1 rfl (lS1 rfl lS0)))))))) (ih25 v27 v27 (x6_5 + v63) (x7_6 + 1) M64 hI64 hFm64 hFl2264 (by omega) (by omega) (by omega) (by omega) (by omega) (by omega) (by omega) (by omega) (by omega) (by omega) (by omega) (by omega) (by unfold pAk; rw [if_neg (by omega), show 2 * (x7_6 + 1).toNat - 2 = 2 * (x7_6).toNat by omega]; exact v27k.symm) (eb_3 hD (z := v27) i23 ⟨by omega, by omega⟩ (Or.inl ⟨by omega, v27k.symm, ⟨by rw [← i22]; omega, by omega, by rw [v27k]; omega⟩, v63q⟩) (fun hm => by have h8 := hm; rw [v67k] at h8; rw [v27k]; unfold pSi; first | (exfalso; omega) | (exact if_pos (by omega))) (by omega)) (by omega))
                  · refine s_iload kx_275_200 rfl ?_
                    refine s_if_ne (t := 207) kx_275_202 (by decide) (fun hc69 => absurd hc69 (by decide)) (fun hc69 => ?_)
                    refine s_iconst (v := (-1)) kx_275_205 (by decide) ?_
                    exact s_iret kx_275_206 (Or.inl kq_275) ⟨_, _, rfl, rfl, hI64, hFm64, ⟨by omega, by omega, (eb_2 (z := v27) i23 ⟨by omega, by omega⟩ (Or.inl ⟨by omega, v27k.symm⟩) (fun z => by have h9 := z (v67k.trans (by omega)); rw [v27k] at h9; unfold pSi at h9; rw [if_neg (by omega)] at h9; omega)).symm⟩⟩
                · refine s_aload_n kx_275_145 rfl ?_
                  refine r_getR (k := 63) (f := 50) (k2 := 94) kx_275_146 kp_275_165 (tk_63 hT) kf_12_50 (by decide) (rq_63_50 hI64) ?_
                  refine s_iload_n kx_275_149 rfl ?_
                  refine r_aldK (k := 94) kx_275_150 (tk_94 hT) ⟨by omega, by omega⟩ ((fr64 94 _ rfl).trans v57e) ?_
                  refine s_if_ne (t := 182) kx_275_151 (by decide) (fun hc70 => ?_) (fun hc70 => ?_)
                  · refine s_iconst (v := 0) kx_275_182 (by decide) ?_
                    refine s_istore kx_275_183 km_275_10 rfl ?_
                    refine s_aload_n kx_275_185 rfl ?_
                    refine r_getR (k := 63) (f := 0) (k2 := 64) kx_275_186 kp_275_7 (tk_63 hT) kf_12_0 (by decide) (rq_63_0 hI64) ?_
                    refine s_iconst (v := 2) kx_275_189 (by decide) ?_
                    refine s_iload kx_275_190 rfl ?_
                    refine r_mul kx_275_192 ⟨by omega, by omega⟩ ?_
                    refine s_iconst (v := 1) kx_275_193 (by decide) ?_
                    refine r_add kx_275_194 ⟨by omega, by omega⟩ ?_
                    refine r_ald (k := 64) kx_275_195 (tk_64 hT) ⟨by omega, by omega⟩ (rg_64 hI64) (fun v71 v71e v71a v71b => ?_)
                    have v71r : s (((2 * x7_6) + 1)).toNat = v71 := (congrFun hs (((2 * x7_6) + 1)).toNat).symm.trans ((((fr64 64 _ rfl).trans (fl7 64 _ rfl))).symm.trans v71e)
                    have v71k : s (2 * (x7_6).toNat + 1) = v71 := (congrArg s (by omega)).trans v71r
                    refine s_iconst (v := 1) kx_275_196 (by decide) ?_
                    refine s_icmp_ne (t := 207) kx_275_197 (by decide) (fun hc72 => ?_) (fun hc72 => ?_)
                    · refine r_iinc kx_275_207 rfl km_275_7 (by decide) ⟨by omega, by omega⟩ rfl ?_
                      refine s_goto (t := 22) kx_275_210 (by decide) ?_
                      exact cP.wk (lS1 rfl (lS1 rfl (lS1 rfl (lS1 rfl (lS1 rfl (lS1 rfl (lS1 rfl (lS1 rfl lS0)))))))) (ih25 v27 v27 (x6_5 + v63) (x7_6 + 1) M64 hI64 hFm64 hFl2264 (by omega) (by omega) (by omega) (by omega) (by omega) (by omega) (by omega) (by omega) (by omega) (by omega) (by omega) (by omega) (by unfold pAk; rw [if_neg (by omega), show 2 * (x7_6 + 1).toNat - 2 = 2 * (x7_6).toNat by omega]; exact v27k.symm) (eb_3 hD (z := v27) i23 ⟨by omega, by omega⟩ (Or.inl ⟨by omega, v27k.symm, ⟨by rw [← i22]; omega, by omega, by rw [v27k]; omega⟩, v63q⟩) (fun hm => by have h8 := hm; rw [v71k] at h8; rw [v27k]; unfold pSi; first | (exfalso; omega) | (exact if_pos (by omega))) (by omega)) (by omega))
                    · refine s_iload kx_275_200 rfl ?_
                      refine s_if_ne (t := 207) kx_275_202 (by decide) (fun hc73 => absurd hc73 (by decide)) (fun hc73 => ?_)
                      refine s_iconst (v := (-1)) kx_275_205 (by decide) ?_
                      exact s_iret kx_275_206 (Or.inl kq_275) ⟨_, _, rfl, rfl, hI64, hFm64, ⟨by omega, by omega, (eb_2 (z := v27) i23 ⟨by omega, by omega⟩ (Or.inl ⟨by omega, v27k.symm⟩) (fun z => by have h9 := z (v71k.trans (by omega)); rw [v27k] at h9; unfold pSi at h9; rw [if_neg (by omega)] at h9; omega)).symm⟩⟩
                  · refine s_aload_n kx_275_154 rfl ?_
                    refine s_iload_n kx_275_155 rfl ?_
                    refine s_callV2 (k := 63) (s1 := 2) (s2 := 0) (as := [(0, p)]) (rest := []) kx_275_156 kp_275_487 (Or.inl rfl) rfl (tk_63 hT) ki_238 kcl_238 rfl rfl (by decide) (g_238 (d := d + 3) (p := p) hT hI64 (RR.fr (RR.fr hR fl7 rfl) fr64 rfl) (by omega) (by omega)) (kF (fun v74 v74p => ?_))
                    refine s_iconst (v := (-1)) kx_275_159 (by decide) ?_
                    refine s_icmp_eq (t := 178) kx_275_160 (by decide) (fun hc75 => ?_) (fun hc75 => ?_)
                    · refine s_iconst (v := 1) kx_275_178 (by decide) ?_
                      refine s_goto (t := 183) kx_275_179 (by decide) ?_
                      refine s_istore kx_275_183 km_275_10 rfl ?_
                      refine s_aload_n kx_275_185 rfl ?_
                      refine r_getR (k := 63) (f := 0) (k2 := 64) kx_275_186 kp_275_7 (tk_63 hT) kf_12_0 (by decide) (rq_63_0 hI64) ?_
                      refine s_iconst (v := 2) kx_275_189 (by decide) ?_
                      refine s_iload kx_275_190 rfl ?_
                      refine r_mul kx_275_192 ⟨by omega, by omega⟩ ?_
                      refine s_iconst (v := 1) kx_275_193 (by decide) ?_
                      refine r_add kx_275_194 ⟨by omega, by omega⟩ ?_
                      refine r_ald (k := 64) kx_275_195 (tk_64 hT) ⟨by omega, by omega⟩ (rg_64 hI64) (fun v76 v76e v76a v76b => ?_)
                      have v76r : s (((2 * x7_6) + 1)).toNat = v76 := (congrFun hs (((2 * x7_6) + 1)).toNat).symm.trans ((((fr64 64 _ rfl).trans (fl7 64 _ rfl))).symm.trans v76e)
                      have v76k : s (2 * (x7_6).toNat + 1) = v76 := (congrArg s (by omega)).trans v76r
                      refine s_iconst (v := 1) kx_275_196 (by decide) ?_
                      refine s_icmp_ne (t := 207) kx_275_197 (by decide) (fun hc77 => ?_) (fun hc77 => ?_)
                      · refine r_iinc kx_275_207 rfl km_275_7 (by decide) ⟨by omega, by omega⟩ rfl ?_
                        refine s_goto (t := 22) kx_275_210 (by decide) ?_
                        exact cP.wk (lS1 rfl (lS1 rfl (lS1 rfl (lS1 rfl (lS1 rfl (lS1 rfl (lS1 rfl (lS1 rfl lS0)))))))) (ih25 v27 v27 (x6_5 + v63) (x7_6 + 1) M64 hI64 hFm64 hFl2264 (by omega) (by omega) (by omega) (by omega) (by omega) (by omega) (by omega) (by omega) (by omega) (by omega) (by omega) (by omega) (by unfold pAk; rw [if_neg (by omega), show 2 * (x7_6 + 1).toNat - 2 = 2 * (x7_6).toNat by omega]; exact v27k.symm) (eb_3 hD (z := v27) i23 ⟨by omega, by omega⟩ (Or.inl ⟨by omega, v27k.symm, ⟨by rw [← i22]; omega, by omega, by rw [v27k]; omega⟩, v63q⟩) (fun hm => by have h8 := hm; rw [v76k] at h8; rw [v27k]; unfold pSi; first | (exfalso; omega) | (rw [← v74p.2.2.1]; exact if_pos (by omega))) (by omega)) (by omega))
                      · refine s_iload kx_275_200 rfl ?_
                        refine s_if_ne (t := 207) kx_275_202 (by decide) (fun hc78 => ?_) (fun hc78 => absurd hc78 (by decide))
                        refine r_iinc kx_275_207 rfl km_275_7 (by decide) ⟨by omega, by omega⟩ rfl ?_
                        refine s_goto (t := 22) kx_275_210 (by decide) ?_
                        exact cP.wk (lS1 rfl (lS1 rfl (lS1 rfl (lS1 rfl (lS1 rfl (lS1 rfl (lS1 rfl (lS1 rfl lS0)))))))) (ih25 v27 v27 (x6_5 + v63) (x7_6 + 1) M64 hI64 hFm64 hFl2264 (by omega) (by omega) (by omega) (by omega) (by omega) (by omega) (by omega) (by omega) (by omega) (by omega) (by omega) (by omega) (by unfold pAk; rw [if_neg (by omega), show 2 * (x7_6 + 1).toNat - 2 = 2 * (x7_6).toNat by omega]; exact v27k.symm) (eb_3 hD (z := v27) i23 ⟨by omega, by omega⟩ (Or.inl ⟨by omega, v27k.symm, ⟨by rw [← i22]; omega, by omega, by rw [v27k]; omega⟩, v63q⟩) (fun hm => by have h8 := hm; rw [v76k] at h8; rw [v27k]; unfold pSi; first | (exfalso; omega) | (rw [← v74p.2.2.1]; exact if_pos (by omega))) (by omega)) (by omega))
                    · refine s_aload_n kx_275_163 rfl ?_
                      refine r_getR (k := 63) (f := 49) (k2 := 93) kx_275_164 kp_275_162 (tk_63 hT) kf_12_49 (by decide) (rq_63_49 hI64) ?_
                      refine s_aload_n kx_275_167 rfl ?_
                      refine s_iload_n kx_275_168 rfl ?_
                      refine s_callV2 (k := 63) (s1 := 2) (s2 := 1) (as := [(0, p)]) (rest := [rf 93]) kx_275_169 kp_275_487 (Or.inl rfl) rfl (tk_63 hT) ki_238 kcl_238 rfl rfl (by decide) (g_238 (d := d + 3) (p := p) hT hI64 (RR.fr (RR.fr hR fl7 rfl) fr64 rfl) (by omega) (by omega)) (kF (fun v79 v79p => ?_))
                      refine r_ald (k := 93) kx_275_172 (tk_93 hT) ⟨by omega, by omega⟩ (rg_93 hI64 (by omega)) (fun v80 v80e v80a v80b => ?_)
                      have v80d := (RR.ch (RR.fr (RR.fr hR fl7 rfl) fr64 rfl) (p := v79) ⟨by omega, by omega⟩ (by omega)).symm.trans v80e
                      have v80w := ((RR.fr (RR.fr hR fl7 rfl) fr64 rfl)).2.2.2.2.1.at (p := v79) ⟨by omega, by omega⟩
                      refine s_iload kx_275_173 rfl ?_
                      refine s_icmp_ne (t := 182) kx_275_175 (by decide) (fun hc81 => ?_) (fun hc81 => ?_)
                      · refine s_iconst (v := 0) kx_275_182 (by decide) ?_
                        refine s_istore kx_275_183 km_275_10 rfl ?_
                        refine s_aload_n kx_275_185 rfl ?_
                        refine r_getR (k := 63) (f := 0) (k2 := 64) kx_275_186 kp_275_7 (tk_63 hT) kf_12_0 (by decide) (rq_63_0 hI64) ?_
                        refine s_iconst (v := 2) kx_275_189 (by decide) ?_
                        refine s_iload kx_275_190 rfl ?_
                        refine r_mul kx_275_192 ⟨by omega, by omega⟩ ?_
                        refine s_iconst (v := 1) kx_275_193 (by decide) ?_
                        refine r_add kx_275_194 ⟨by omega, by omega⟩ ?_
                        refine r_ald (k := 64) kx_275_195 (tk_64 hT) ⟨by omega, by omega⟩ (rg_64 hI64) (fun v82 v82e v82a v82b => ?_)
                        have v82r : s (((2 * x7_6) + 1)).toNat = v82 := (congrFun hs (((2 * x7_6) + 1)).toNat).symm.trans ((((fr64 64 _ rfl).trans (fl7 64 _ rfl))).symm.trans v82e)
                        have v82k : s (2 * (x7_6).toNat + 1) = v82 := (congrArg s (by omega)).trans v82r
                        refine s_iconst (v := 1) kx_275_196 (by decide) ?_
                        refine s_icmp_ne (t := 207) kx_275_197 (by decide) (fun hc83 => ?_) (fun hc83 => ?_)
                        · refine r_iinc kx_275_207 rfl km_275_7 (by decide) ⟨by omega, by omega⟩ rfl ?_
                          refine s_goto (t := 22) kx_275_210 (by decide) ?_
                          exact cP.wk (lS1 rfl (lS1 rfl (lS1 rfl (lS1 rfl (lS1 rfl (lS1 rfl (lS1 rfl (lS1 rfl lS0)))))))) (ih25 v27 v27 (x6_5 + v63) (x7_6 + 1) M64 hI64 hFm64 hFl2264 (by omega) (by omega) (by omega) (by omega) (by omega) (by omega) (by omega) (by omega) (by omega) (by omega) (by omega) (by omega) (by unfold pAk; rw [if_neg (by omega), show 2 * (x7_6 + 1).toNat - 2 = 2 * (x7_6).toNat by omega]; exact v27k.symm) (eb_3 hD (z := v27) i23 ⟨by omega, by omega⟩ (Or.inl ⟨by omega, v27k.symm, ⟨by rw [← i22]; omega, by omega, by rw [v27k]; omega⟩, v63q⟩) (fun hm => by have h8 := hm; rw [v82k] at h8; rw [v27k]; unfold pSi; first | (exfalso; omega) | (rw [← v79p.2.2.1]; exact if_pos (by omega))) (by omega)) (by omega))
                        · refine s_iload kx_275_200 rfl ?_
                          refine s_if_ne (t := 207) kx_275_202 (by decide) (fun hc84 => absurd hc84 (by decide)) (fun hc84 => ?_)
                          refine s_iconst (v := (-1)) kx_275_205 (by decide) ?_
                          exact s_iret kx_275_206 (Or.inl kq_275) ⟨_, _, rfl, rfl, hI64, hFm64, ⟨by omega, by omega, (eb_2 (z := v27) i23 ⟨by omega, by omega⟩ (Or.inl ⟨by omega, v27k.symm⟩) (fun z => by have h9 := z (v82k.trans (by omega)); rw [v27k] at h9; unfold pSi at h9; rw [← v79p.2.2.1] at h9; rw [if_neg (by omega)] at h9; omega)).symm⟩⟩
                      · refine s_iconst (v := 1) kx_275_178 (by decide) ?_
                        refine s_goto (t := 183) kx_275_179 (by decide) ?_
                        refine s_istore kx_275_183 km_275_10 rfl ?_
                        refine s_aload_n kx_275_185 rfl ?_
                        refine r_getR (k := 63) (f := 0) (k2 := 64) kx_275_186 kp_275_7 (tk_63 hT) kf_12_0 (by decide) (rq_63_0 hI64) ?_
                        refine s_iconst (v := 2) kx_275_189 (by decide) ?_
                        refine s_iload kx_275_190 rfl ?_
                        refine r_mul kx_275_192 ⟨by omega, by omega⟩ ?_
                        refine s_iconst (v := 1) kx_275_193 (by decide) ?_
                        refine r_add kx_275_194 ⟨by omega, by omega⟩ ?_
                        refine r_ald (k := 64) kx_275_195 (tk_64 hT) ⟨by omega, by omega⟩ (rg_64 hI64) (fun v85 v85e v85a v85b => ?_)
                        have v85r : s (((2 * x7_6) + 1)).toNat = v85 := (congrFun hs (((2 * x7_6) + 1)).toNat).symm.trans ((((fr64 64 _ rfl).trans (fl7 64 _ rfl))).symm.trans v85e)
                        have v85k : s (2 * (x7_6).toNat + 1) = v85 := (congrArg s (by omega)).trans v85r
                        refine s_iconst (v := 1) kx_275_196 (by decide) ?_
                        refine s_icmp_ne (t := 207) kx_275_197 (by decide) (fun hc86 => ?_) (fun hc86 => ?_)
                        · refine r_iinc kx_275_207 rfl km_275_7 (by decide) ⟨by omega, by omega⟩ rfl ?_
                          refine s_goto (t := 22) kx_275_210 (by decide) ?_
                          exact cP.wk (lS1 rfl (lS1 rfl (lS1 rfl (lS1 rfl (lS1 rfl (lS1 rfl (lS1 rfl (lS1 rfl lS0)))))))) (ih25 v27 v27 (x6_5 + v63) (x7_6 + 1) M64 hI64 hFm64 hFl2264 (by omega) (by omega) (by omega) (by omega) (by omega) (by omega) (by omega) (by omega) (by omega) (by omega) (by omega) (by omega) (by unfold pAk; rw [if_neg (by omega), show 2 * (x7_6 + 1).toNat - 2 = 2 * (x7_6).toNat by omega]; exact v27k.symm) (eb_3 hD (z := v27) i23 ⟨by omega, by omega⟩ (Or.inl ⟨by omega, v27k.symm, ⟨by rw [← i22]; omega, by omega, by rw [v27k]; omega⟩, v63q⟩) (fun hm => by have h8 := hm; rw [v85k] at h8; rw [v27k]; unfold pSi; first | (exfalso; omega) | (rw [← v79p.2.2.1]; exact if_pos (by omega))) (by omega)) (by omega))
                        · refine s_iload kx_275_200 rfl ?_
                          refine s_if_ne (t := 207) kx_275_202 (by decide) (fun hc87 => ?_) (fun hc87 => absurd hc87 (by decide))
                          refine r_iinc kx_275_207 rfl km_275_7 (by decide) ⟨by omega, by omega⟩ rfl ?_
                          refine s_goto (t := 22) kx_275_210 (by decide) ?_
                          exact cP.wk (lS1 rfl (lS1 rfl (lS1 rfl (lS1 rfl (lS1 rfl (lS1 rfl (lS1 rfl (lS1 rfl lS0)))))))) (ih25 v27 v27 (x6_5 + v63) (x7_6 + 1) M64 hI64 hFm64 hFl2264 (by omega) (by omega) (by omega) (by omega) (by omega) (by omega) (by omega) (by omega) (by omega) (by omega) (by omega) (by omega) (by unfold pAk; rw [if_neg (by omega), show 2 * (x7_6 + 1).toNat - 2 = 2 * (x7_6).toNat by omega]; exact v27k.symm) (eb_3 hD (z := v27) i23 ⟨by omega, by omega⟩ (Or.inl ⟨by omega, v27k.symm, ⟨by rw [← i22]; omega, by omega, by rw [v27k]; omega⟩, v63q⟩) (fun hm => by have h8 := hm; rw [v85k] at h8; rw [v27k]; unfold pSi; first | (exfalso; omega) | (rw [← v79p.2.2.1]; exact if_pos (by omega))) (by omega)) (by omega))
              · replace v59p := v59p.resolve_left (by omega)
                refine s_iconst (v := (-1)) kx_275_83 (by decide) ?_
                exact s_iret kx_275_84 (Or.inl kq_275) ⟨_, _, rfl, rfl, hI7, hFm7, ⟨by omega, by omega, (eb_1 i23 ⟨by omega, by omega⟩ (by omega) (fun z => by have h9 := z.2.2; rw [v27k] at h9; have h8 := z.1; rw [← i22] at h8; have h7 := z.2.1; omega)).symm⟩⟩
  exact cP.wk (lS1 rfl (lS1 rfl (lS1 rfl (lS1 rfl (lS1 rfl (lS1 rfl (lS1 rfl (lS1 rfl lS0)))))))) (key8 _ v1 v2 0 0 M hI hFm Fr.refl (by omega) (by omega) (by omega) (by omega) (by omega) (by omega) (by omega) (by omega) (by omega) (by omega) (by omega) (by omega) (v1d.symm) (by have h9 := eb_z (x := way.toNat) (cr := S 1 p.toNat) (S := S) (s := s) (p := p) (many := many) (by omega) (by omega) hD; rw [v2d] at h9 ⊢; exact h9) (Nat.lt_succ_self _))
