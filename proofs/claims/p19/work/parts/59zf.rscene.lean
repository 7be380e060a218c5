theorem g_220 {xs : Nat → Int} {Ln d : Nat} {T : List cK} {M : cM} (hT : TT T) (hI : Rng M) {r : Int} {D S : cM} (hR : RR D S M) : cC k_P xs Ln (d + 0) 220 [rf 63, (0, r)] (T, M) (qF T M 0 (fun v => (v = 1 ∧ 0 ≤ r ∧ r < D 0 0) ∨ (v = 0 ∧ (r < 0 ∨ D 0 0 ≤ r)))) := by
  show cP k_P xs Ln (d + 0) 220 0 [(0, rf 63), (1, (0, r))] [] (T, M) _
  have hD := hR.2.1
  have hDr := hD.rg
  have hSW := hR.2.2.2.2.1
  refine s_iload_n kx_220_0 rfl ?_
  refine s_if_lt (t := 21) kx_220_1 (by decide) (fun hc1 => ?_) (fun hc1 => ?_)
  · refine s_iconst (v := 0) kx_220_21 (by decide) ?_
    exact s_iret kx_220_22 (Or.inr ⟨kq_220, by omega⟩) ⟨_, rfl, rfl, (by omega)⟩
  · refine s_iload_n kx_220_4 rfl ?_
    refine s_aload_n kx_220_5 rfl ?_
    refine r_getR (k := 63) (f := 15) (k2 := 65) kx_220_6 kp_220_57 (tk_63 hT) kf_12_15 (by decide) (rq_63_15 hI) ?_
    refine s_aload_n kx_220_9 rfl ?_
    refine r_getI (k := 63) (f := 14) kx_220_10 kp_220_54 (tk_63 hT) kf_12_14 (fun _ => rfl) (rg_63_14 hI) (fun v2 v2e v2a v2b => ?_)
    refine r_ald (k := 65) kx_220_13 (tk_65 hT) ⟨by omega, by omega⟩ (rg_65 hI) (fun v3 v3e v3a v3b => ?_)
    have v3d : D 0 0 = v3 := by have h9 := (hR).1.1; rw [v2e] at h9; exact h9.symm.trans v3e
    refine s_icmp_ge (t := 21) kx_220_14 (by decide) (fun hc4 => ?_) (fun hc4 => ?_)
    · refine s_iconst (v := 0) kx_220_21 (by decide) ?_
      exact s_iret kx_220_22 (Or.inr ⟨kq_220, by omega⟩) ⟨_, rfl, rfl, (by omega)⟩
    · refine s_iconst (v := 1) kx_220_17 (by decide) ?_
      refine s_goto (t := 22) kx_220_18 (by decide) ?_
      exact s_iret kx_220_22 (Or.inr ⟨kq_220, by omega⟩) ⟨_, rfl, rfl, (by omega)⟩
theorem g_221 {xs : Nat → Int} {Ln d : Nat} {T : List cK} {M : cM} (hT : TT T) (hI : Rng M) {p : Int} {D S : cM} (hR : RR D S M) : cC k_P xs Ln (d + 0) 221 [rf 63, (0, p)] (T, M) (qF T M 0 (fun v => (v = 1 ∧ 0 ≤ p ∧ p < D 0 1) ∨ (v = 0 ∧ (p < 0 ∨ D 0 1 ≤ p)))) := by
  show cP k_P xs Ln (d + 0) 221 0 [(0, rf 63), (1, (0, p))] [] (T, M) _
  have hD := hR.2.1
  have hDr := hD.rg
  have hSW := hR.2.2.2.2.1
  refine s_iload_n kx_221_0 rfl ?_
  refine s_if_lt (t := 21) kx_221_1 (by decide) (fun hc1 => ?_) (fun hc1 => ?_)
  · refine s_iconst (v := 0) kx_221_21 (by decide) ?_
    exact s_iret kx_221_22 (Or.inr ⟨kq_221, by omega⟩) ⟨_, rfl, rfl, (by omega)⟩
  · refine s_iload_n kx_221_4 rfl ?_
    refine s_aload_n kx_221_5 rfl ?_
    refine r_getR (k := 63) (f := 19) (k2 := 69) kx_221_6 kp_221_69 (tk_63 hT) kf_12_19 (by decide) (rq_63_19 hI) ?_
    refine s_aload_n kx_221_9 rfl ?_
    refine r_getI (k := 63) (f := 14) kx_221_10 kp_221_54 (tk_63 hT) kf_12_14 (fun _ => rfl) (rg_63_14 hI) (fun v2 v2e v2a v2b => ?_)
    refine r_ald (k := 69) kx_221_13 (tk_69 hT) ⟨by omega, by omega⟩ (rg_69 hI) (fun v3 v3e v3a v3b => ?_)
    have v3d : D 0 1 = v3 := by have h9 := (hR).1.2.1; rw [v2e] at h9; exact h9.symm.trans v3e
    refine s_icmp_ge (t := 21) kx_221_14 (by decide) (fun hc4 => ?_) (fun hc4 => ?_)
    · refine s_iconst (v := 0) kx_221_21 (by decide) ?_
      exact s_iret kx_221_22 (Or.inr ⟨kq_221, by omega⟩) ⟨_, rfl, rfl, (by omega)⟩
    · refine s_iconst (v := 1) kx_221_17 (by decide) ?_
      refine s_goto (t := 22) kx_221_18 (by decide) ?_
      exact s_iret kx_221_22 (Or.inr ⟨kq_221, by omega⟩) ⟨_, rfl, rfl, (by omega)⟩
theorem g_237 {xs : Nat → Int} {Ln d : Nat} {T : List cK} {M : cM} (hT : TT T) (hI : Rng M) {c : Int} {D S : cM} (hR : RR D S M) (p0 : 0 ≤ c ∧ c ≤ 7) (p1 : c < D 0 1) : cC k_P xs Ln (d + 0) 237 [rf 63, (0, c)] (T, M) (qF T M 0 (fun v => 0 ≤ v ∧ v ≤ 9 ∧ (v = D 8 c.toNat))) := by
  show cP k_P xs Ln (d + 0) 237 0 [(0, rf 63), (1, (0, c))] [] (T, M) _
  have hD := hR.2.1
  have hDr := hD.rg
  have hSW := hR.2.2.2.2.1
  refine s_aload_n kx_237_0 rfl ?_
  refine r_getR (k := 63) (f := 22) (k2 := 72) kx_237_1 kp_237_78 (tk_63 hT) kf_12_22 (by decide) (rq_63_22 hI) ?_
  refine s_bipush (v := 8) kx_237_4 (by decide) ?_
  refine s_aload_n kx_237_6 rfl ?_
  refine r_getI (k := 63) (f := 14) kx_237_7 kp_237_54 (tk_63 hT) kf_12_14 (fun _ => rfl) (rg_63_14 hI) (fun v1 v1e v1a v1b => ?_)
  refine r_mul kx_237_10 ⟨by omega, by omega⟩ ?_
  refine s_iload_n kx_237_11 rfl ?_
  refine r_add kx_237_12 ⟨by omega, by omega⟩ ?_
  refine r_aldU (k := 72) kx_237_13 (tk_72 hT) ⟨by omega, by omega⟩ (fun v2 v2e => ?_)
  have hb3 := v1e
  have v2d := (RR.wd hR (p := c) ⟨by omega, by omega⟩ (by omega)).symm.trans v2e
  have v2w := hD.1.wd (p := c) ⟨by omega, by omega⟩
  rw [v2d] at v2w
  exact s_iret kx_237_14 (Or.inl kq_237) ⟨_, rfl, rfl, (by omega)⟩
theorem g_238 {xs : Nat → Int} {Ln d : Nat} {T : List cK} {M : cM} (hT : TT T) (hI : Rng M) {p : Int} {D S : cM} (hR : RR D S M) (p0 : 0 ≤ p ∧ p ≤ 7) (p1 : p < D 0 1) : cC k_P xs Ln (d + 0) 238 [rf 63, (0, p)] (T, M) (qF T M 0 (fun v => (-1) ≤ v ∧ v ≤ 7 ∧ (v = D 9 p.toNat ∧ v < D 0 1))) := by
  show cP k_P xs Ln (d + 0) 238 0 [(0, rf 63), (1, (0, p))] [] (T, M) _
  have hD := hR.2.1
  have hDr := hD.rg
  have hSW := hR.2.2.2.2.1
  refine s_aload_n kx_238_0 rfl ?_
  refine r_getR (k := 63) (f := 24) (k2 := 74) kx_238_1 kp_238_84 (tk_63 hT) kf_12_24 (by decide) (rq_63_24 hI) ?_
  refine s_bipush (v := 8) kx_238_4 (by decide) ?_
  refine s_aload_n kx_238_6 rfl ?_
  refine r_getI (k := 63) (f := 14) kx_238_7 kp_238_54 (tk_63 hT) kf_12_14 (fun _ => rfl) (rg_63_14 hI) (fun v1 v1e v1a v1b => ?_)
  refine r_mul kx_238_10 ⟨by omega, by omega⟩ ?_
  refine s_iload_n kx_238_11 rfl ?_
  refine r_add kx_238_12 ⟨by omega, by omega⟩ ?_
  refine r_ald (k := 74) kx_238_13 (tk_74 hT) ⟨by omega, by omega⟩ (rg_74 hI) (fun v2 v2e v2a v2b => ?_)
  have hb3 := v1e
  have v2d := (RR.pt hR (p := p) ⟨by omega, by omega⟩ (by omega)).symm.trans v2e
  have v2w := hD.1.pt (p := p) ⟨by omega, by omega⟩
  rw [v2d] at v2w
  exact s_iret kx_238_14 (Or.inl kq_238) ⟨_, rfl, rfl, (by omega)⟩
theorem g_239 {xs : Nat → Int} {Ln d : Nat} {T : List cK} {M : cM} (hT : TT T) (hI : Rng M) {c : Int} {D S : cM} (hR : RR D S M) (p0 : 0 ≤ c ∧ c ≤ 7) (p1 : c < D 0 1) : cC k_P xs Ln (d + 1) 239 [rf 63, (0, c)] (T, M) (qF T M 0 (fun v => 0 ≤ v ∧ v ≤ 18 ∧ (v = pDw D c))) := by
  show cP k_P xs Ln (d + 1) 239 0 [(0, rf 63), (1, (0, c))] [] (T, M) _
  have hD := hR.2.1
  have hDr := hD.rg
  have hSW := hR.2.2.2.2.1
  refine s_aload_n kx_239_0 rfl ?_
  refine s_iload_n kx_239_1 rfl ?_
  refine s_callV2 (k := 63) (s1 := 2) (s2 := 0) (as := [(0, c)]) (rest := []) kx_239_2 kp_239_484 (Or.inl rfl) rfl (tk_63 hT) ki_237 kcl_237 rfl rfl (by decide) (g_237 (d := d) (c := c) hT hI hR (by omega) (by omega)) (kF (fun v1 v1p => ?_))
  refine s_aload_n kx_239_5 rfl ?_
  refine s_iload_n kx_239_6 rfl ?_
  refine s_callV2 (k := 63) (s1 := 2) (s2 := 1) (as := [(0, c)]) (rest := [(0, v1)]) kx_239_7 kp_239_487 (Or.inl rfl) rfl (tk_63 hT) ki_238 kcl_238 rfl rfl (by decide) (g_238 (d := d) (p := c) hT hI hR (by omega) (by omega)) (kF (fun v2 v2p => ?_))
  refine s_iconst (v := (-1)) kx_239_10 (by decide) ?_
  refine s_icmp_ne (t := 18) kx_239_11 (by decide) (fun hc3 => ?_) (fun hc3 => ?_)
  · refine s_aload_n kx_239_18 rfl ?_
    refine s_aload_n kx_239_19 rfl ?_
    refine s_iload_n kx_239_20 rfl ?_
    refine s_callV2 (k := 63) (s1 := 2) (s2 := 2) (as := [(0, c)]) (rest := [rf 63, (0, v1)]) kx_239_21 kp_239_487 (Or.inl rfl) rfl (tk_63 hT) ki_238 kcl_238 rfl rfl (by decide) (g_238 (d := d) (p := c) hT hI hR (by omega) (by omega)) (kF (fun v4 v4p => ?_))
    refine s_callV2 (k := 63) (s1 := 2) (s2 := 1) (as := [(0, v4)]) (rest := [(0, v1)]) kx_239_24 kp_239_484 (Or.inl rfl) rfl (tk_63 hT) ki_237 kcl_237 rfl rfl (by decide) (g_237 (d := d) (c := v4) hT hI hR (by omega) (by omega)) (kF (fun v5 v5p => ?_))
    refine r_add kx_239_27 ⟨by omega, by omega⟩ ?_
    exact s_iret kx_239_28 (Or.inl kq_239) ⟨_, rfl, rfl, ⟨by omega, by omega, (by have h7 := v2p.2.2.1; have h6 := v1p.2.2; have h5 := v5p.2.2; rw [v4p.2.2.1] at h5; unfold pDw; rw [if_pos (by omega)]; omega)⟩⟩
  · refine s_iconst (v := 0) kx_239_14 (by decide) ?_
    refine s_goto (t := 27) kx_239_15 (by decide) ?_
    refine r_add kx_239_27 ⟨by omega, by omega⟩ ?_
    exact s_iret kx_239_28 (Or.inl kq_239) ⟨_, rfl, rfl, ⟨by omega, by omega, (by have h7 := v2p.2.2.1; have h6 := v1p.2.2; unfold pDw; rw [if_neg (by omega)]; omega)⟩⟩
theorem g_240 {xs : Nat → Int} {Ln d : Nat} {T : List cK} {M : cM} (hT : TT T) (hI : Rng M) {r but : Int} {D S : cM} (hR : RR D S M) : cC k_P xs Ln (d + 1) 240 [rf 63, (0, r), (0, but)] (T, M) (qF T M 0 (fun v => 0 ≤ v ∧ v ≤ 72 ∧ (v = pLd D S r but (D 0 1).toNat))) := by
  show cP k_P xs Ln (d + 1) 240 0 [(0, rf 63), (1, (0, r)), (2, (0, but))] [] (T, M) _
  have hD := hR.2.1
  have hDr := hD.rg
  have hSW := hR.2.2.2.2.1
  refine s_iconst (v := 0) kx_240_0 (by decide) ?_
  refine s_istore_n kx_240_1 km_240_3 rfl ?_
  refine s_iconst (v := 0) kx_240_2 (by decide) ?_
  refine s_istore kx_240_3 km_240_4 rfl ?_
  have key3 : ∀ n4 : Nat, ∀ (x3_1 x4_2 : Int), (0 ≤ x3_1) → (x3_1 ≤ 72) → (0 ≤ x4_2) → (x4_2 ≤ 8) → (x3_1 ≤ 9 * x4_2) → (x4_2 ≤ D 0 1) → (x3_1 = pLd D S r but (x4_2).toNat) → (2147483647 - x4_2).toNat < n4 → cP k_P xs Ln (d + 1) 240 5 [(0, rf 63), (1, (0, r)), (2, (0, but)), (3, (0, x3_1)), (4, (0, x4_2))] [] (T, M) (qF T M 0 (fun v => 0 ≤ v ∧ v ≤ 72 ∧ (v = pLd D S r but (D 0 1).toNat))) := by
    intro n4
    induction n4 with
    | zero => intro x3_1 x4_2 i5 i6 i7 i8 i9 i10 i11 hm12; exact absurd hm12 (Nat.not_lt_zero _)
    | succ n4 ih13 =>
      intro x3_1 x4_2 i5 i6 i7 i8 i9 i10 i11 hm12
      refine s_iload kx_240_5 rfl ?_
      refine s_aload_n kx_240_7 rfl ?_
      refine r_getR (k := 63) (f := 19) (k2 := 69) kx_240_8 kp_240_69 (tk_63 hT) kf_12_19 (by decide) (rq_63_19 hI) ?_
      refine s_aload_n kx_240_11 rfl ?_
      refine r_getI (k := 63) (f := 14) kx_240_12 kp_240_54 (tk_63 hT) kf_12_14 (fun _ => rfl) (rg_63_14 hI) (fun v14 v14e v14a v14b => ?_)
      refine r_ald (k := 69) kx_240_15 (tk_69 hT) ⟨by omega, by omega⟩ (rg_69 hI) (fun v15 v15e v15a v15b => ?_)
      have v15d : D 0 1 = v15 := by have h9 := (hR).1.2.1; rw [v14e] at h9; exact h9.symm.trans v15e
      refine s_icmp_ge (t := 55) kx_240_16 (by decide) (fun hc16 => ?_) (fun hc16 => ?_)
      · refine s_iload_n kx_240_55 rfl ?_
        exact s_iret kx_240_56 (Or.inl kq_240) ⟨_, rfl, rfl, ⟨by omega, by omega, by rw [show D 0 1 = x4_2 by omega]; exact i11⟩⟩
      · refine s_iload_n kx_240_19 rfl ?_
        refine s_iload kx_240_20 rfl ?_
        refine s_iload_n kx_240_22 rfl ?_
        refine s_icmp_eq (t := 46) kx_240_23 (by decide) (fun hc17 => ?_) (fun hc17 => ?_)
        · refine s_iconst (v := 0) kx_240_46 (by decide) ?_
          refine r_add kx_240_47 ⟨by omega, by omega⟩ ?_
          refine s_istore_n kx_240_48 km_240_3 rfl ?_
          refine r_iinc kx_240_49 rfl km_240_4 (by decide) ⟨by omega, by omega⟩ rfl ?_
          refine s_goto (t := 5) kx_240_52 (by decide) ?_
          exact cP.wk (lS1 rfl (lS1 rfl (lS1 rfl (lS1 rfl (lS1 rfl lS0))))) (ih13 (x3_1 + 0) (x4_2 + 1) (by omega) (by omega) (by omega) (by omega) (by omega) (by omega) (pLd_S i11 (by omega) (Or.inr ⟨by omega, rfl⟩)) (by omega))
        · refine s_aload_n kx_240_26 rfl ?_
          refine r_getR (k := 63) (f := 49) (k2 := 93) kx_240_27 kp_240_162 (tk_63 hT) kf_12_49 (by decide) (rq_63_49 hI) ?_
          refine s_iload kx_240_30 rfl ?_
          refine r_ald (k := 93) kx_240_32 (tk_93 hT) ⟨by omega, by omega⟩ (rg_93 hI (by omega)) (fun v18 v18e v18a v18b => ?_)
          have v18d := (RR.ch hR (p := x4_2) ⟨by omega, by omega⟩ (by omega)).symm.trans v18e
          have v18w := (hR).2.2.2.2.1.at (p := x4_2) ⟨by omega, by omega⟩
          refine s_iload_n kx_240_33 rfl ?_
          refine s_icmp_ne (t := 46) kx_240_34 (by decide) (fun hc19 => ?_) (fun hc19 => ?_)
          · refine s_iconst (v := 0) kx_240_46 (by decide) ?_
            refine r_add kx_240_47 ⟨by omega, by omega⟩ ?_
            refine s_istore_n kx_240_48 km_240_3 rfl ?_
            refine r_iinc kx_240_49 rfl km_240_4 (by decide) ⟨by omega, by omega⟩ rfl ?_
            refine s_goto (t := 5) kx_240_52 (by decide) ?_
            exact cP.wk (lS1 rfl (lS1 rfl (lS1 rfl (lS1 rfl (lS1 rfl lS0))))) (ih13 (x3_1 + 0) (x4_2 + 1) (by omega) (by omega) (by omega) (by omega) (by omega) (by omega) (pLd_S i11 (by omega) (Or.inr ⟨by omega, rfl⟩)) (by omega))
          · refine s_aload_n kx_240_37 rfl ?_
            refine s_iload kx_240_38 rfl ?_
            refine s_callV2 (k := 63) (s1 := 2) (s2 := 1) (as := [(0, x4_2)]) (rest := [(0, x3_1)]) kx_240_40 kp_240_484 (Or.inl rfl) rfl (tk_63 hT) ki_237 kcl_237 rfl rfl (by decide) (g_237 (d := d) (c := x4_2) hT hI hR (by omega) (by omega)) (kF (fun v20 v20p => ?_))
            refine s_goto (t := 47) kx_240_43 (by decide) ?_
            refine r_add kx_240_47 ⟨by omega, by omega⟩ ?_
            refine s_istore_n kx_240_48 km_240_3 rfl ?_
            refine r_iinc kx_240_49 rfl km_240_4 (by decide) ⟨by omega, by omega⟩ rfl ?_
            refine s_goto (t := 5) kx_240_52 (by decide) ?_
            exact cP.wk (lS1 rfl (lS1 rfl (lS1 rfl (lS1 rfl (lS1 rfl lS0))))) (ih13 (x3_1 + v20) (x4_2 + 1) (by omega) (by omega) (by omega) (by omega) (by omega) (by omega) (pLd_S i11 (by omega) (Or.inl ⟨by omega, by omega, by omega⟩)) (by omega))
  exact cP.wk (lS1 rfl (lS1 rfl (lS1 rfl (lS1 rfl (lS1 rfl lS0))))) (key3 _ 0 0 (by omega) (by omega) (by omega) (by omega) (by omega) (by omega) rfl (Nat.lt_succ_self _))
theorem g_241 {xs : Nat → Int} {Ln d : Nat} {T : List cK} {M : cM} (hT : TT T) (hI : Rng M) {c r : Int} {D S : cM} (hR : RR D S M) (p0 : 0 ≤ c ∧ c ≤ 7) (p1 : 0 ≤ r ∧ r ≤ 7) (p2 : c < D 0 1) (p3 : r < D 0 0) : cC k_P xs Ln (d + 2) 241 [rf 63, (0, c), (0, r)] (T, M) (qF T M 0 (fun v => (v = 1 ∧ pDw D c ≤ D 2 r.toNat) ∨ (v = 0 ∧ ¬ pDw D c ≤ D 2 r.toNat))) := by
  show cP k_P xs Ln (d + 2) 241 0 [(0, rf 63), (1, (0, c)), (2, (0, r))] [] (T, M) _
  have hD := hR.2.1
  have hDr := hD.rg
  have hSW := hR.2.2.2.2.1
  refine s_aload_n kx_241_0 rfl ?_
  refine s_iload_n kx_241_1 rfl ?_
  refine s_callV2 (k := 63) (s1 := 2) (s2 := 0) (as := [(0, c)]) (rest := []) kx_241_2 kp_241_490 (Or.inl rfl) rfl (tk_63 hT) ki_239 kcl_239 rfl rfl (by decide) (g_239 (d := d) (c := c) hT hI hR (by omega) (by omega)) (kF (fun v1 v1p => ?_))
  refine s_aload_n kx_241_5 rfl ?_
  refine r_getR (k := 63) (f := 16) (k2 := 66) kx_241_6 kp_241_60 (tk_63 hT) kf_12_16 (by decide) (rq_63_16 hI) ?_
  refine s_bipush (v := 8) kx_241_9 (by decide) ?_
  refine s_aload_n kx_241_11 rfl ?_
  refine r_getI (k := 63) (f := 14) kx_241_12 kp_241_54 (tk_63 hT) kf_12_14 (fun _ => rfl) (rg_63_14 hI) (fun v2 v2e v2a v2b => ?_)
  refine r_mul kx_241_15 ⟨by omega, by omega⟩ ?_
  refine s_iload_n kx_241_16 rfl ?_
  refine r_add kx_241_17 ⟨by omega, by omega⟩ ?_
  refine r_aldU (k := 66) kx_241_18 (tk_66 hT) ⟨by omega, by omega⟩ (fun v3 v3e => ?_)
  have hb4 := v2e
  have v3d := (RR.dr hR (p := r) ⟨by omega, by omega⟩ (by omega)).symm.trans v3e
  refine s_icmp_gt (t := 26) kx_241_19 (by decide) (fun hc5 => ?_) (fun hc5 => ?_)
  · refine s_iconst (v := 0) kx_241_26 (by decide) ?_
    exact s_iret kx_241_27 (Or.inr ⟨kq_241, by omega⟩) ⟨_, rfl, rfl, (by omega)⟩
  · refine s_iconst (v := 1) kx_241_22 (by decide) ?_
    refine s_goto (t := 27) kx_241_23 (by decide) ?_
    exact s_iret kx_241_27 (Or.inr ⟨kq_241, by omega⟩) ⟨_, rfl, rfl, (by omega)⟩
theorem g_242 {xs : Nat → Int} {Ln d : Nat} {T : List cK} {M : cM} (hT : TT T) (hI : Rng M) {c r : Int} {D S : cM} (hR : RR D S M) (p0 : 0 ≤ c ∧ c ≤ 7) (p1 : 0 ≤ r ∧ r ≤ 7) (p2 : c < D 0 1) (p3 : r < D 0 0) : cC k_P xs Ln (d + 3) 242 [rf 63, (0, c), (0, r)] (T, M) (qF T M 0 (fun v => (v = 1 ∧ pAd D S r c = 1) ∨ (v = 0 ∧ pAd D S r c = 0))) := by
  show cP k_P xs Ln (d + 3) 242 0 [(0, rf 63), (1, (0, c)), (2, (0, r))] [] (T, M) _
  have hD := hR.2.1
  have hDr := hD.rg
  have hSW := hR.2.2.2.2.1
  refine s_aload_n kx_242_0 rfl ?_
  refine s_iload_n kx_242_1 rfl ?_
  refine s_iload_n kx_242_2 rfl ?_
  refine s_callV2 (k := 63) (s1 := 3) (s2 := 0) (as := [(0, r), (0, c)]) (rest := []) kx_242_3 kp_242_493 (Or.inl rfl) rfl (tk_63 hT) ki_241 kcl_241 rfl rfl (by decide) (g_241 (d := d) (c := c) (r := r) hT hI hR (by omega) (by omega) (by omega) (by omega)) (kF (fun v1 v1p => ?_))
  refine s_if_eq (t := 42) kx_242_6 (by decide) (fun hc2 => ?_) (fun hc2 => ?_)
  · replace v1p := v1p.resolve_left (by omega)
    refine s_iconst (v := 0) kx_242_42 (by decide) ?_
    exact s_iret kx_242_43 (Or.inr ⟨kq_242, by omega⟩) ⟨_, rfl, rfl, (Or.inr ⟨rfl, by unfold pAd; exact if_neg (by omega)⟩)⟩
  · replace v1p := v1p.resolve_right (by omega)
    refine s_aload_n kx_242_9 rfl ?_
    refine s_iload_n kx_242_10 rfl ?_
    refine s_iload_n kx_242_11 rfl ?_
    refine s_callV2 (k := 63) (s1 := 3) (s2 := 0) (as := [(0, c), (0, r)]) (rest := []) kx_242_12 kp_242_497 (Or.inl rfl) rfl (tk_63 hT) ki_240 kcl_240 rfl rfl (by decide) (g_240 (d := d + 1) (r := r) (but := c) hT hI hR) (kF (fun v3 v3p => ?_))
    refine s_aload_n kx_242_15 rfl ?_
    refine s_iload_n kx_242_16 rfl ?_
    refine s_callV2 (k := 63) (s1 := 2) (s2 := 1) (as := [(0, c)]) (rest := [(0, v3)]) kx_242_17 kp_242_484 (Or.inl rfl) rfl (tk_63 hT) ki_237 kcl_237 rfl rfl (by decide) (g_237 (d := d + 2) (c := c) hT hI hR (by omega) (by omega)) (kF (fun v4 v4p => ?_))
    refine r_add kx_242_20 ⟨by omega, by omega⟩ ?_
    refine s_aload_n kx_242_21 rfl ?_
    refine r_getR (k := 63) (f := 17) (k2 := 67) kx_242_22 kp_242_63 (tk_63 hT) kf_12_17 (by decide) (rq_63_17 hI) ?_
    refine s_bipush (v := 8) kx_242_25 (by decide) ?_
    refine s_aload_n kx_242_27 rfl ?_
    refine r_getI (k := 63) (f := 14) kx_242_28 kp_242_54 (tk_63 hT) kf_12_14 (fun _ => rfl) (rg_63_14 hI) (fun v5 v5e v5a v5b => ?_)
    refine r_mul kx_242_31 ⟨by omega, by omega⟩ ?_
    refine s_iload_n kx_242_32 rfl ?_
    refine r_add kx_242_33 ⟨by omega, by omega⟩ ?_
    refine r_aldU (k := 67) kx_242_34 (tk_67 hT) ⟨by omega, by omega⟩ (fun v6 v6e => ?_)
    have hb7 := v5e
    have v6d := (RR.fl hR (p := r) ⟨by omega, by omega⟩ (by omega)).symm.trans v6e
    refine s_icmp_gt (t := 42) kx_242_35 (by decide) (fun hc8 => ?_) (fun hc8 => ?_)
    · refine s_iconst (v := 0) kx_242_42 (by decide) ?_
      exact s_iret kx_242_43 (Or.inr ⟨kq_242, by omega⟩) ⟨_, rfl, rfl, (Or.inr ⟨rfl, by unfold pAd; exact if_neg (by omega)⟩)⟩
    · refine s_iconst (v := 1) kx_242_38 (by decide) ?_
      refine s_goto (t := 43) kx_242_39 (by decide) ?_
      exact s_iret kx_242_43 (Or.inr ⟨kq_242, by omega⟩) ⟨_, rfl, rfl, (Or.inl ⟨rfl, by unfold pAd; exact if_pos (by omega)⟩)⟩
theorem g_243 {xs : Nat → Int} {Ln d : Nat} {T : List cK} {M : cM} (hT : TT T) (hI : Rng M) {p r : Int} {D S : cM} (hR : RR D S M) (p0 : 0 ≤ p ∧ p ≤ 7) (p1 : p < D 0 1) : cC k_P xs Ln (d + 1) 243 [rf 63, (0, p), (0, r)] (T, M) (qF T M 0 (fun v => (v = 1 ∧ pSi D S p r (S 1 p.toNat) = 1) ∨ (v = 0 ∧ pSi D S p r (S 1 p.toNat) = 0))) := by
  show cP k_P xs Ln (d + 1) 243 0 [(0, rf 63), (1, (0, p)), (2, (0, r))] [] (T, M) _
  have hD := hR.2.1
  have hDr := hD.rg
  have hSW := hR.2.2.2.2.1
  refine s_aload_n kx_243_0 rfl ?_
  refine r_getR (k := 63) (f := 49) (k2 := 93) kx_243_1 kp_243_162 (tk_63 hT) kf_12_49 (by decide) (rq_63_49 hI) ?_
  refine s_iload_n kx_243_4 rfl ?_
  refine r_ald (k := 93) kx_243_5 (tk_93 hT) ⟨by omega, by omega⟩ (rg_93 hI (by omega)) (fun v1 v1e v1a v1b => ?_)
  have v1d := (RR.ch hR (p := p) ⟨by omega, by omega⟩ (by omega)).symm.trans v1e
  have v1w := (hR).2.2.2.2.1.at (p := p) ⟨by omega, by omega⟩
  refine s_iload_n kx_243_6 rfl ?_
  refine s_icmp_ne (t := 46) kx_243_7 (by decide) (fun hc2 => ?_) (fun hc2 => ?_)
  · refine s_iconst (v := 0) kx_243_46 (by decide) ?_
    exact s_iret kx_243_47 (Or.inr ⟨kq_243, by omega⟩) ⟨_, rfl, rfl, (Or.inr ⟨rfl, by unfold pSi; exact if_neg (by omega)⟩)⟩
  · refine s_aload_n kx_243_10 rfl ?_
    refine r_getR (k := 63) (f := 50) (k2 := 94) kx_243_11 kp_243_165 (tk_63 hT) kf_12_50 (by decide) (rq_63_50 hI) ?_
    refine s_iload_n kx_243_14 rfl ?_
    refine r_aldU (k := 94) kx_243_15 (tk_94 hT) ⟨by omega, by omega⟩ (fun v3 v3e => ?_)
    have v3d := (RR.br hR (p := p) ⟨by omega, by omega⟩ (by omega)).symm.trans v3e
    have v3w := (hR).2.2.2.2.1.at (p := p) ⟨by omega, by omega⟩
    refine s_if_ne (t := 46) kx_243_16 (by decide) (fun hc4 => ?_) (fun hc4 => ?_)
    · refine s_iconst (v := 0) kx_243_46 (by decide) ?_
      exact s_iret kx_243_47 (Or.inr ⟨kq_243, by omega⟩) ⟨_, rfl, rfl, (Or.inr ⟨rfl, by unfold pSi; exact if_neg (by omega)⟩)⟩
    · refine s_aload_n kx_243_19 rfl ?_
      refine s_iload_n kx_243_20 rfl ?_
      refine s_callV2 (k := 63) (s1 := 2) (s2 := 0) (as := [(0, p)]) (rest := []) kx_243_21 kp_243_487 (Or.inl rfl) rfl (tk_63 hT) ki_238 kcl_238 rfl rfl (by decide) (g_238 (d := d) (p := p) hT hI hR (by omega) (by omega)) (kF (fun v5 v5p => ?_))
      refine s_iconst (v := (-1)) kx_243_24 (by decide) ?_
      refine s_icmp_eq (t := 42) kx_243_25 (by decide) (fun hc6 => ?_) (fun hc6 => ?_)
      · refine s_iconst (v := 1) kx_243_42 (by decide) ?_
        refine s_goto (t := 47) kx_243_43 (by decide) ?_
        exact s_iret kx_243_47 (Or.inr ⟨kq_243, by omega⟩) ⟨_, rfl, rfl, (Or.inl ⟨rfl, by unfold pSi; exact if_pos (by omega)⟩)⟩
      · refine s_aload_n kx_243_28 rfl ?_
        refine r_getR (k := 63) (f := 49) (k2 := 93) kx_243_29 kp_243_162 (tk_63 hT) kf_12_49 (by decide) (rq_63_49 hI) ?_
        refine s_aload_n kx_243_32 rfl ?_
        refine s_iload_n kx_243_33 rfl ?_
        refine s_callV2 (k := 63) (s1 := 2) (s2 := 1) (as := [(0, p)]) (rest := [rf 93]) kx_243_34 kp_243_487 (Or.inl rfl) rfl (tk_63 hT) ki_238 kcl_238 rfl rfl (by decide) (g_238 (d := d) (p := p) hT hI hR (by omega) (by omega)) (kF (fun v7 v7p => ?_))
        refine r_ald (k := 93) kx_243_37 (tk_93 hT) ⟨by omega, by omega⟩ (rg_93 hI (by omega)) (fun v8 v8e v8a v8b => ?_)
        have v8d := (RR.ch hR (p := v7) ⟨by omega, by omega⟩ (by omega)).symm.trans v8e
        have v8w := (hR).2.2.2.2.1.at (p := v7) ⟨by omega, by omega⟩
        refine s_iload_n kx_243_38 rfl ?_
        refine s_icmp_ne (t := 46) kx_243_39 (by decide) (fun hc9 => ?_) (fun hc9 => ?_)
        · refine s_iconst (v := 0) kx_243_46 (by decide) ?_
          exact s_iret kx_243_47 (Or.inr ⟨kq_243, by omega⟩) ⟨_, rfl, rfl, (Or.inr ⟨rfl, by unfold pSi; rw [← v7p.2.2.1]; exact if_neg (by omega)⟩)⟩
        · refine s_iconst (v := 1) kx_243_42 (by decide) ?_
          refine s_goto (t := 47) kx_243_43 (by decide) ?_
          exact s_iret kx_243_47 (Or.inr ⟨kq_243, by omega⟩) ⟨_, rfl, rfl, (Or.inl ⟨rfl, by unfold pSi; rw [← v7p.2.2.1]; exact if_pos (by omega)⟩)⟩
theorem g_244 {xs : Nat → Int} {Ln d : Nat} {T : List cK} {M : cM} (hT : TT T) (hI : Rng M) {p : Int} {D S : cM} (hR : RR D S M) (p0 : 0 ≤ p ∧ p ≤ 7) (p1 : p < D 0 1) : cC k_P xs Ln (d + 2) 244 [rf 63, (0, p)] (T, M) (qF T M 0 (fun v => (v = 1 ∧ pSi D S p (S 0 p.toNat) (S 1 p.toNat) = 1) ∨ (v = 0 ∧ pSi D S p (S 0 p.toNat) (S 1 p.toNat) = 0))) := by
  show cP k_P xs Ln (d + 2) 244 0 [(0, rf 63), (1, (0, p))] [] (T, M) _
  have hD := hR.2.1
  have hDr := hD.rg
  have hSW := hR.2.2.2.2.1
  refine s_aload_n kx_244_0 rfl ?_
  refine s_iload_n kx_244_1 rfl ?_
  refine s_aload_n kx_244_2 rfl ?_
  refine r_getR (k := 63) (f := 48) (k2 := 92) kx_244_3 kp_244_159 (tk_63 hT) kf_12_48 (by decide) (rq_63_48 hI) ?_
  refine s_iload_n kx_244_6 rfl ?_
  refine r_ald (k := 92) kx_244_7 (tk_92 hT) ⟨by omega, by omega⟩ (rg_92 hI (by omega)) (fun v1 v1e v1a v1b => ?_)
  have v1d := (RR.rm hR (p := p) ⟨by omega, by omega⟩ (by omega)).symm.trans v1e
  have v1w := (hR).2.2.2.2.1.at (p := p) ⟨by omega, by omega⟩
  refine s_callV2 (k := 63) (s1 := 3) (s2 := 0) (as := [(0, v1), (0, p)]) (rest := []) kx_244_8 kp_244_500 (Or.inl rfl) rfl (tk_63 hT) ki_243 kcl_243 rfl rfl (by decide) (g_243 (d := d) (p := p) (r := v1) hT hI hR (by omega) (by omega)) (kF (fun v2 v2p => ?_))
  exact s_iret kx_244_11 (Or.inr ⟨kq_244, by omega⟩) ⟨_, rfl, rfl, (by rw [show S 0 p.toNat = v1 from v1d]; exact v2p)⟩
theorem g_245 {xs : Nat → Int} {Ln d : Nat} {T : List cK} {M : cM} (hT : TT T) (hI : Rng M) {a b : Int} {D S : cM} (hR : RR D S M) (p0 : 0 ≤ a ∧ a ≤ 7) (p1 : 0 ≤ b ∧ b ≤ 7) (p2 : a < D 0 0) (p3 : b < D 0 0) : cC k_P xs Ln (d + 0) 245 [rf 63, (0, a), (0, b)] (T, M) (qF T M 0 (fun v => 0 ≤ v ∧ v ≤ 60 ∧ (v = pWy D a b))) := by
  show cP k_P xs Ln (d + 0) 245 0 [(0, rf 63), (1, (0, a)), (2, (0, b))] [] (T, M) _
  have hD := hR.2.1
  have hDr := hD.rg
  have hSW := hR.2.2.2.2.1
  refine s_aload_n kx_245_0 rfl ?_
  refine r_getR (k := 63) (f := 18) (k2 := 68) kx_245_1 kp_245_66 (tk_63 hT) kf_12_18 (by decide) (rq_63_18 hI) ?_
  refine s_bipush (v := 8) kx_245_4 (by decide) ?_
  refine s_bipush (v := 8) kx_245_6 (by decide) ?_
  refine s_aload_n kx_245_8 rfl ?_
  refine r_getI (k := 63) (f := 14) kx_245_9 kp_245_54 (tk_63 hT) kf_12_14 (fun _ => rfl) (rg_63_14 hI) (fun v1 v1e v1a v1b => ?_)
  refine r_mul kx_245_12 ⟨by omega, by omega⟩ ?_
  refine s_iload_n kx_245_13 rfl ?_
  refine r_add kx_245_14 ⟨by omega, by omega⟩ ?_
  refine r_mul kx_245_15 ⟨by omega, by omega⟩ ?_
  refine s_iload_n kx_245_16 rfl ?_
  refine r_add kx_245_17 ⟨by omega, by omega⟩ ?_
  refine r_ald (k := 68) kx_245_18 (tk_68 hT) ⟨by omega, by omega⟩ (rg_68 hI) (fun v2 v2e v2a v2b => ?_)
  have hq3 : M 68 (((8 * ((8 * M 63 14) + a)) + b)).toNat = v2 := by rw [v1e]; exact v2e
  exact s_iret kx_245_19 (Or.inl kq_245) ⟨_, rfl, rfl, ⟨by omega, by omega, by rw [← RR.wy hR (a := a) (b := b) ⟨by omega, by omega⟩ ⟨by omega, by omega⟩]; unfold wr; omega⟩⟩
theorem g_252 {xs : Nat → Int} {Ln d : Nat} {T : List cK} {M : cM} (hT : TT T) (hI : Rng M) {p r c : Int} {D S : cM} (hR : RR D S M) (p0 : 0 ≤ p ∧ p ≤ 7) (p1 : 0 ≤ r ∧ r ≤ 7) (p2 : p < D 0 1) (p3 : r < D 0 0) : cC k_P xs Ln (d + 4) 252 [rf 63, (0, p), (0, r), (0, c)] (T, M) (qF T M 0 (fun v => (v = 1 ∧ (c = -1 ∨ (0 ≤ c ∧ c < D 0 1 ∧ pCn D S p r c = 1))) ∨ (v = 0 ∧ c ≠ -1 ∧ pCn D S p r c = 0))) := by
  show cP k_P xs Ln (d + 4) 252 0 [(0, rf 63), (1, (0, p)), (2, (0, r)), (3, (0, c))] [] (T, M) _
  have hD := hR.2.1
  have hDr := hD.rg
  have hSW := hR.2.2.2.2.1
  refine s_iload_n kx_252_0 rfl ?_
  refine s_iconst (v := (-1)) kx_252_1 (by decide) ?_
  refine s_icmp_eq (t := 46) kx_252_2 (by decide) (fun hc1 => ?_) (fun hc1 => ?_)
  · refine s_iconst (v := 1) kx_252_46 (by decide) ?_
    refine s_goto (t := 51) kx_252_47 (by decide) ?_
    exact s_iret kx_252_51 (Or.inr ⟨kq_252, by omega⟩) ⟨_, rfl, rfl, (Or.inl ⟨rfl, (if e : c = -1 then Or.inl e else Or.inr ⟨by omega, by omega, by unfold pCn; exact if_pos (by omega)⟩)⟩)⟩
  · refine s_aload_n kx_252_5 rfl ?_
    refine s_iload_n kx_252_6 rfl ?_
    refine s_callV2 (k := 63) (s1 := 2) (s2 := 0) (as := [(0, c)]) (rest := []) kx_252_7 kp_252_514 (Or.inl rfl) rfl (tk_63 hT) ki_221 kcl_221 rfl rfl (by decide) (g_221 (d := d + 3) (p := c) hT hI hR) (kF (fun v2 v2p => ?_))
    refine s_if_eq (t := 50) kx_252_10 (by decide) (fun hc3 => ?_) (fun hc3 => ?_)
    · replace v2p := v2p.resolve_left (by omega)
      refine s_iconst (v := 0) kx_252_50 (by decide) ?_
      exact s_iret kx_252_51 (Or.inr ⟨kq_252, by omega⟩) ⟨_, rfl, rfl, (Or.inr ⟨rfl, by omega, by unfold pCn; exact if_neg (by omega)⟩)⟩
    · replace v2p := v2p.resolve_right (by omega)
      refine s_aload_n kx_252_13 rfl ?_
      refine r_getR (k := 63) (f := 49) (k2 := 93) kx_252_14 kp_252_162 (tk_63 hT) kf_12_49 (by decide) (rq_63_49 hI) ?_
      refine s_iload_n kx_252_17 rfl ?_
      refine r_ald (k := 93) kx_252_18 (tk_93 hT) ⟨by omega, by omega⟩ (rg_93 hI (by omega)) (fun v4 v4e v4a v4b => ?_)
      have v4d := (RR.ch hR (p := c) ⟨by omega, by omega⟩ (by omega)).symm.trans v4e
      have v4w := (hR).2.2.2.2.1.at (p := c) ⟨by omega, by omega⟩
      refine s_aload_n kx_252_19 rfl ?_
      refine r_getR (k := 63) (f := 48) (k2 := 92) kx_252_20 kp_252_159 (tk_63 hT) kf_12_48 (by decide) (rq_63_48 hI) ?_
      refine s_iload_n kx_252_23 rfl ?_
      refine r_ald (k := 92) kx_252_24 (tk_92 hT) ⟨by omega, by omega⟩ (rg_92 hI (by omega)) (fun v5 v5e v5a v5b => ?_)
      have v5d := (RR.rm hR (p := p) ⟨by omega, by omega⟩ (by omega)).symm.trans v5e
      have v5w := (hR).2.2.2.2.1.at (p := p) ⟨by omega, by omega⟩
      refine s_icmp_ne (t := 50) kx_252_25 (by decide) (fun hc6 => ?_) (fun hc6 => ?_)
      · refine s_iconst (v := 0) kx_252_50 (by decide) ?_
        exact s_iret kx_252_51 (Or.inr ⟨kq_252, by omega⟩) ⟨_, rfl, rfl, (Or.inr ⟨rfl, by omega, by unfold pCn; exact if_neg (by omega)⟩)⟩
      · refine s_aload_n kx_252_28 rfl ?_
        refine r_getR (k := 63) (f := 50) (k2 := 94) kx_252_29 kp_252_165 (tk_63 hT) kf_12_50 (by decide) (rq_63_50 hI) ?_
        refine s_iload_n kx_252_32 rfl ?_
        refine r_aldU (k := 94) kx_252_33 (tk_94 hT) ⟨by omega, by omega⟩ (fun v7 v7e => ?_)
        have v7d := (RR.br hR (p := c) ⟨by omega, by omega⟩ (by omega)).symm.trans v7e
        have v7w := (hR).2.2.2.2.1.at (p := c) ⟨by omega, by omega⟩
        refine s_if_ne (t := 50) kx_252_34 (by decide) (fun hc8 => ?_) (fun hc8 => ?_)
        · refine s_iconst (v := 0) kx_252_50 (by decide) ?_
          exact s_iret kx_252_51 (Or.inr ⟨kq_252, by omega⟩) ⟨_, rfl, rfl, (Or.inr ⟨rfl, by omega, by unfold pCn; exact if_neg (by omega)⟩)⟩
        · refine s_aload_n kx_252_37 rfl ?_
          refine s_iload_n kx_252_38 rfl ?_
          refine s_iload_n kx_252_39 rfl ?_
          refine s_callV2 (k := 63) (s1 := 3) (s2 := 0) (as := [(0, r), (0, c)]) (rest := []) kx_252_40 kp_252_517 (Or.inl rfl) rfl (tk_63 hT) ki_242 kcl_242 rfl rfl (by decide) (g_242 (d := d) (c := c) (r := r) hT hI hR (by omega) (by omega) (by omega) (by omega)) (kF (fun v9 v9p => ?_))
          refine s_if_eq (t := 50) kx_252_43 (by decide) (fun hc10 => ?_) (fun hc10 => ?_)
          · replace v9p := v9p.resolve_left (by omega)
            refine s_iconst (v := 0) kx_252_50 (by decide) ?_
            exact s_iret kx_252_51 (Or.inr ⟨kq_252, by omega⟩) ⟨_, rfl, rfl, (Or.inr ⟨rfl, by omega, by unfold pCn; exact if_neg (by omega)⟩)⟩
          · replace v9p := v9p.resolve_right (by omega)
            refine s_iconst (v := 1) kx_252_46 (by decide) ?_
            refine s_goto (t := 51) kx_252_47 (by decide) ?_
            exact s_iret kx_252_51 (Or.inr ⟨kq_252, by omega⟩) ⟨_, rfl, rfl, (Or.inl ⟨rfl, (if e : c = -1 then Or.inl e else Or.inr ⟨by omega, by omega, by unfold pCn; exact if_pos (by omega)⟩)⟩)⟩
theorem g_253 {xs : Nat → Int} {Ln d : Nat} {T : List cK} {M : cM} (hT : TT T) (hI : Rng M) {p r c : Int} {D S : cM} (hR : RR D S M) : cC k_P xs Ln (d + 5) 253 [rf 63, (0, p), (0, r), (0, c)] (T, M) (qF T M 0 (fun v => (v = 1 ∧ 0 ≤ p ∧ p < D 0 1 ∧ 0 ≤ r ∧ r < D 0 0 ∧ (c = -1 ∨ (0 ≤ c ∧ c < D 0 1)) ∧ pCg D S p r c = 1) ∨ (v = 0 ∧ pCg D S p r c = 0))) := by
  show cP k_P xs Ln (d + 5) 253 0 [(0, rf 63), (1, (0, p)), (2, (0, r)), (3, (0, c))] [] (T, M) _
  have hD := hR.2.1
  have hDr := hD.rg
  have hSW := hR.2.2.2.2.1
  refine s_aload_n kx_253_0 rfl ?_
  refine s_iload_n kx_253_1 rfl ?_
  refine s_callV2 (k := 63) (s1 := 2) (s2 := 0) (as := [(0, p)]) (rest := []) kx_253_2 kp_253_514 (Or.inl rfl) rfl (tk_63 hT) ki_221 kcl_221 rfl rfl (by decide) (g_221 (d := d + 4) (p := p) hT hI hR) (kF (fun v1 v1p => ?_))
  refine s_if_eq (t := 44) kx_253_5 (by decide) (fun hc2 => ?_) (fun hc2 => ?_)
  · replace v1p := v1p.resolve_left (by omega)
    refine s_iconst (v := 0) kx_253_44 (by decide) ?_
    exact s_iret kx_253_45 (Or.inr ⟨kq_253, by omega⟩) ⟨_, rfl, rfl, (Or.inr ⟨rfl, by unfold pCg; exact if_neg (by omega)⟩)⟩
  · replace v1p := v1p.resolve_right (by omega)
    refine s_aload_n kx_253_8 rfl ?_
    refine s_iload_n kx_253_9 rfl ?_
    refine s_callV2 (k := 63) (s1 := 2) (s2 := 0) (as := [(0, r)]) (rest := []) kx_253_10 kp_253_508 (Or.inl rfl) rfl (tk_63 hT) ki_220 kcl_220 rfl rfl (by decide) (g_220 (d := d + 4) (r := r) hT hI hR) (kF (fun v3 v3p => ?_))
    refine s_if_eq (t := 44) kx_253_13 (by decide) (fun hc4 => ?_) (fun hc4 => ?_)
    · replace v3p := v3p.resolve_left (by omega)
      refine s_iconst (v := 0) kx_253_44 (by decide) ?_
      exact s_iret kx_253_45 (Or.inr ⟨kq_253, by omega⟩) ⟨_, rfl, rfl, (Or.inr ⟨rfl, by unfold pCg; exact if_neg (by omega)⟩)⟩
    · replace v3p := v3p.resolve_right (by omega)
      refine s_aload_n kx_253_16 rfl ?_
      refine s_aload_n kx_253_17 rfl ?_
      refine r_getR (k := 63) (f := 48) (k2 := 92) kx_253_18 kp_253_159 (tk_63 hT) kf_12_48 (by decide) (rq_63_48 hI) ?_
      refine s_iload_n kx_253_21 rfl ?_
      refine r_ald (k := 92) kx_253_22 (tk_92 hT) ⟨by omega, by omega⟩ (rg_92 hI (by omega)) (fun v5 v5e v5a v5b => ?_)
      have v5d := (RR.rm hR (p := p) ⟨by omega, by omega⟩ (by omega)).symm.trans v5e
      have v5w := (hR).2.2.2.2.1.at (p := p) ⟨by omega, by omega⟩
      refine s_iload_n kx_253_23 rfl ?_
      refine s_callV2 (k := 63) (s1 := 3) (s2 := 0) (as := [(0, r), (0, v5)]) (rest := []) kx_253_24 kp_253_511 (Or.inl rfl) rfl (tk_63 hT) ki_245 kcl_245 rfl rfl (by decide) (g_245 (d := d + 4) (a := v5) (b := r) hT hI hR (by omega) (by omega) (by omega) (by omega)) (kF (fun v6 v6p => ?_))
      have v6q := v6p.2.2
      rw [← v5d] at v6q
      refine s_if_le (t := 44) kx_253_27 (by decide) (fun hc7 => ?_) (fun hc7 => ?_)
      · refine s_iconst (v := 0) kx_253_44 (by decide) ?_
        exact s_iret kx_253_45 (Or.inr ⟨kq_253, by omega⟩) ⟨_, rfl, rfl, (Or.inr ⟨rfl, by unfold pCg; exact if_neg (by omega)⟩)⟩
      · refine s_aload_n kx_253_30 rfl ?_
        refine s_iload_n kx_253_31 rfl ?_
        refine s_iload_n kx_253_32 rfl ?_
        refine s_iload_n kx_253_33 rfl ?_
        refine s_callV2 (k := 63) (s1 := 4) (s2 := 0) (as := [(0, c), (0, r), (0, p)]) (rest := []) kx_253_34 kp_253_520 (Or.inl rfl) rfl (tk_63 hT) ki_252 kcl_252 rfl rfl (by decide) (g_252 (d := d) (p := p) (r := r) (c := c) hT hI hR (by omega) (by omega) (by omega) (by omega)) (kF (fun v8 v8p => ?_))
        refine s_if_eq (t := 44) kx_253_37 (by decide) (fun hc9 => ?_) (fun hc9 => ?_)
        · replace v8p := v8p.resolve_left (by omega)
          refine s_iconst (v := 0) kx_253_44 (by decide) ?_
          exact s_iret kx_253_45 (Or.inr ⟨kq_253, by omega⟩) ⟨_, rfl, rfl, (Or.inr ⟨rfl, by unfold pCg; exact if_neg (by omega)⟩)⟩
        · replace v8p := v8p.resolve_right (by omega)
          refine s_iconst (v := 1) kx_253_40 (by decide) ?_
          refine s_goto (t := 45) kx_253_41 (by decide) ?_
          exact s_iret kx_253_45 (Or.inr ⟨kq_253, by omega⟩) ⟨_, rfl, rfl, (Or.inl ⟨rfl, by omega, by omega, by omega, by omega, by omega, by unfold pCg; exact if_pos (by omega)⟩)⟩
def gR_235_m : List (Nat × Nat) := [(102, 99999), (63, 62), (63, 63), (63, 64)]
theorem g_235 {xs : Nat → Int} {Ln d : Nat} {T : List cK} {M : cM} (hT : TT T) (hI : Rng M) {p chair takes : Int} {D S : cM} (hR : RR D S M) (p0 : 0 ≤ p ∧ p ≤ 7) (p1 : 0 ≤ chair ∧ chair ≤ 7) (p2 : 0 ≤ takes ∧ takes ≤ 60) (p3 : p < D 0 1) (p4 : chair < D 0 1) : cC k_P xs Ln (d + 3) 235 [rf 63, (0, p), (0, chair), (0, takes)] (T, M) (qW T M gR_235_m 0 (fun v M1 => 0 ≤ v ∧ v ≤ 1059 ∧ (v = pCy D S p chair takes))) := by
  show cP k_P xs Ln (d + 3) 235 0 [(0, rf 63), (1, (0, p)), (2, (0, chair)), (3, (0, takes))] [] (T, M) _
  have hFm : Fr gR_235_m M M := Fr.refl
  have hD := hR.2.1
  have hDr := hD.rg
  have hSW := hR.2.2.2.2.1
  refine s_aload_n kx_235_0 rfl ?_
  refine r_getR (k := 63) (f := 25) (k2 := 75) kx_235_1 kp_235_87 (tk_63 hT) kf_12_25 (by decide) (rq_63_25 hI) ?_
  refine s_aload_n kx_235_4 rfl ?_
  refine r_getI (k := 63) (f := 14) kx_235_5 kp_235_54 (tk_63 hT) kf_12_14 (fun _ => rfl) (rg_63_14 hI) (fun v1 v1e v1a v1b => ?_)
  refine r_ald (k := 75) kx_235_8 (tk_75 hT) ⟨by omega, by omega⟩ (rg_75 hI) (fun v2 v2e v2a v2b => ?_)
  refine s_iconst (v := (-1)) kx_235_9 (by decide) ?_
  refine s_icmp_ne (t := 15) kx_235_10 (by decide) (fun hc3 => ?_) (fun hc3 => ?_)
  · refine s_aload_n kx_235_15 rfl ?_
    refine s_iload_n kx_235_16 rfl ?_
    refine r_put (k := 63) (f := 62) kx_235_17 kp_235_201 (tk_63 hT) kf_12_62 rfl (by decide) (by decide) hI ru_63_62 (fun M4 hI4 u4 => ?_)
    have hFm4 := hFm.up u4 rfl
    have hc5 := (RR.up hR u4 (by omega))
    refine s_aload_n kx_235_20 rfl ?_
    refine s_iload_n kx_235_21 rfl ?_
    refine r_put (k := 63) (f := 63) kx_235_22 kp_235_204 (tk_63 hT) kf_12_63 rfl (by decide) (by decide) hI4 (ru_63_63 (by omega) (by omega)) (fun M6 hI6 u6 => ?_)
    have hFm6 := hFm4.up u6 rfl
    have hc7 := (RR.up hc5 u6 (by omega))
    refine s_aload_n kx_235_25 rfl ?_
    refine s_iload_n kx_235_26 rfl ?_
    refine r_put (k := 63) (f := 64) kx_235_27 kp_235_207 (tk_63 hT) kf_12_64 rfl (by decide) (by decide) hI6 (ru_63_64 (by omega) (by omega)) (fun M8 hI8 u8 => ?_)
    have hFm8 := hFm6.up u8 rfl
    have hc9 := (RR.up hc7 u8 (by omega))
    refine s_iload_n kx_235_30 rfl ?_
    refine s_aload_n kx_235_31 rfl ?_
    refine s_aload_n kx_235_32 rfl ?_
    refine r_getR (k := 63) (f := 25) (k2 := 75) kx_235_33 kp_235_87 (tk_63 hT) kf_12_25 (by decide) (rq_63_25 hI8) ?_
    refine s_aload_n kx_235_36 rfl ?_
    refine r_getK (k := 63) (f := 14) kx_235_37 kp_235_54 (tk_63 hT) kf_12_14 (fun _ => rfl) ((u8.2 63 14 (by omega)).trans ((u6.2 63 14 (by omega)).trans ((u4.2 63 14 (by omega)).trans v1e))) ?_
    refine r_aldK (k := 75) kx_235_40 (tk_75 hT) ⟨by omega, by omega⟩ ((u8.2 75 _ (by omega)).trans ((u6.2 75 _ (by omega)).trans ((u4.2 75 _ (by omega)).trans v2e))) ?_
    refine s_aload_n kx_235_41 rfl ?_
    refine r_getR (k := 63) (f := 26) (k2 := 76) kx_235_42 kp_235_90 (tk_63 hT) kf_12_26 (by decide) (rq_63_26 hI8) ?_
    refine s_aload_n kx_235_45 rfl ?_
    refine r_getK (k := 63) (f := 14) kx_235_46 kp_235_54 (tk_63 hT) kf_12_14 (fun _ => rfl) ((u8.2 63 14 (by omega)).trans ((u6.2 63 14 (by omega)).trans ((u4.2 63 14 (by omega)).trans v1e))) ?_
    refine r_ald (k := 76) kx_235_49 (tk_76 hT) ⟨by omega, by omega⟩ (rg_76 hI8) (fun v10 v10e v10a v10b => ?_)
    have hsl := RR.slow hc9 ((u8.2 63 14 (by omega)).trans ((u6.2 63 14 (by omega)).trans ((u4.2 63 14 (by omega)).trans v1e)))
    rw [((u8.2 75 _ (by omega)).trans ((u6.2 75 _ (by omega)).trans ((u4.2 75 _ (by omega)).trans v2e))), v10e] at hsl
    have hs2 := hsl.2 (fun z => by have := hsl.1.mp z; omega)
    have hgb := gvn_b (p := p) (c := chair) (w := takes) hR.2.1 hSW ⟨by omega, by omega⟩ ⟨by omega, by omega⟩ ⟨by omega, by omega⟩
    obtain ⟨w, hwb, hw⟩ := hs2.2.2.2.runb hgb
    refine s_callV2 (k := 63) (s1 := 3) (s2 := 1) (as := [(0, v10), (0, v2)]) (rest := [(0, takes)]) kx_235_50 kp_235_477 (Or.inl rfl) rfl (tk_63 hT) ki_233 kcl_233 rfl rfl (by decide) (g_233 (d := d) (from_ := v2) (behind := v10) hT hI8 hs2.2.1 hs2.2.2.1 hw hgb (RR.gv hc9 ⟨by omega, by omega⟩ ⟨by omega, by omega⟩ ((u8.2 63 62 (by omega)).trans ((u6.2 63 62 (by omega)).trans u4.1)) ((u8.2 63 63 (by omega)).trans u6.1) u8.1) (by omega) (by omega)) (kW (fun v11 M12 hI12 fr12 v11p => ?_))
    have hFm12 := hFm8.call fr12 rfl
    unfold pBd at hwb
    have hvw := v11p
    have hc13 := (RR.fr hc9 fr12 rfl)
    refine s_callS2 (s1 := 2) (s2 := 1) (as := [(1, v11)]) (rest := [(0, takes)]) kx_235_53 kp_235_480 rfl kcl_234 rfl rfl (by decide) (g_234 (d := d + 2) (v_ := v11) hT hI12 (by omega)) (kF (fun v14 v14p => ?_))
    refine r_add kx_235_56 ⟨by omega, by omega⟩ ?_
    exact s_iret kx_235_57 (Or.inl kq_235) ⟨_, _, rfl, rfl, hI12, hFm12, ⟨by omega, by omega, by unfold pCy; rw [if_neg (fun z => by have := hsl.1.mp z; omega), pEv_eq hw, ← hvw, ← v14p.2.2]⟩⟩
  · refine s_iload_n kx_235_13 rfl ?_
    exact s_iret kx_235_14 (Or.inl kq_235) ⟨_, _, rfl, rfl, hI, hFm, ⟨by omega, by omega, by unfold pCy; exact (if_pos ((RR.slow hR v1e).1.mpr (v2e.trans (by omega)))).symm⟩⟩
def gR_254_m : List (Nat × Nat) := [(102, 99999), (63, 62), (63, 63), (63, 64)]
theorem g_254 {xs : Nat → Int} {Ln d : Nat} {T : List cK} {M : cM} (hT : TT T) (hI : Rng M) {p r c : Int} {D S : cM} (hR : RR D S M) (p0 : 0 ≤ p ∧ p ≤ 7) (p1 : 0 ≤ r ∧ r ≤ 7) (p2 : (-1) ≤ c ∧ c ≤ 7) (p3 : p < D 0 1) (p4 : r < D 0 0) (p5 : c < D 0 1) : cC k_P xs Ln (d + 4) 254 [rf 63, (0, p), (0, r), (0, c)] (T, M) (qW T M gR_254_m 0 (fun v M1 => 0 ≤ v ∧ v ≤ 1059 ∧ (v = pMi D S p r c))) := by
  show cP k_P xs Ln (d + 4) 254 0 [(0, rf 63), (1, (0, p)), (2, (0, r)), (3, (0, c))] [] (T, M) _
  have hFm : Fr gR_254_m M M := Fr.refl
  have hD := hR.2.1
  have hDr := hD.rg
  have hSW := hR.2.2.2.2.1
  refine s_iload_n kx_254_0 rfl ?_
  refine s_iconst (v := (-1)) kx_254_1 (by decide) ?_
  refine s_icmp_ne (t := 19) kx_254_2 (by decide) (fun hc1 => ?_) (fun hc1 => ?_)
  · refine s_aload_n kx_254_19 rfl ?_
    refine s_iload_n kx_254_20 rfl ?_
    refine s_iload_n kx_254_21 rfl ?_
    refine s_aload_n kx_254_22 rfl ?_
    refine s_aload_n kx_254_23 rfl ?_
    refine r_getR (k := 63) (f := 48) (k2 := 92) kx_254_24 kp_254_159 (tk_63 hT) kf_12_48 (by decide) (rq_63_48 hI) ?_
    refine s_iload_n kx_254_27 rfl ?_
    refine r_ald (k := 92) kx_254_28 (tk_92 hT) ⟨by omega, by omega⟩ (rg_92 hI (by omega)) (fun v2 v2e v2a v2b => ?_)
    have v2d := (RR.rm hR (p := p) ⟨by omega, by omega⟩ (by omega)).symm.trans v2e
    have v2w := (hR).2.2.2.2.1.at (p := p) ⟨by omega, by omega⟩
    refine s_iload_n kx_254_29 rfl ?_
    refine s_callV2 (k := 63) (s1 := 3) (s2 := 3) (as := [(0, r), (0, v2)]) (rest := [(0, c), (0, p), rf 63]) kx_254_30 kp_254_511 (Or.inl rfl) rfl (tk_63 hT) ki_245 kcl_245 rfl rfl (by decide) (g_245 (d := d + 3) (a := v2) (b := r) hT hI hR (by omega) (by omega) (by omega) (by omega)) (kF (fun v3 v3p => ?_))
    have v3q := v3p.2.2
    rw [← v2d] at v3q
    refine s_callV2 (k := 63) (s1 := 4) (s2 := 0) (as := [(0, v3), (0, c), (0, p)]) (rest := []) kx_254_33 kp_254_523 (Or.inl rfl) rfl (tk_63 hT) ki_235 kcl_235 rfl rfl (by decide) (g_235 (d := d) (p := p) (chair := c) (takes := v3) hT hI hR (by omega) (by omega) (by omega) (by omega) (by omega)) (kW (fun v4 M5 hI5 fr5 v4p => ?_))
    have hFm5 := hFm.call fr5 rfl
    have hc6 := (RR.fr hR fr5 rfl)
    exact s_iret kx_254_36 (Or.inl kq_254) ⟨_, _, rfl, rfl, hI5, hFm5, ⟨by omega, by omega, by rw [v4p.2.2, v3q]; unfold pMi; rw [if_neg (by omega)]⟩⟩
  · refine s_aload_n kx_254_5 rfl ?_
    refine s_aload_n kx_254_6 rfl ?_
    refine r_getR (k := 63) (f := 48) (k2 := 92) kx_254_7 kp_254_159 (tk_63 hT) kf_12_48 (by decide) (rq_63_48 hI) ?_
    refine s_iload_n kx_254_10 rfl ?_
    refine r_ald (k := 92) kx_254_11 (tk_92 hT) ⟨by omega, by omega⟩ (rg_92 hI (by omega)) (fun v7 v7e v7a v7b => ?_)
    have v7d := (RR.rm hR (p := p) ⟨by omega, by omega⟩ (by omega)).symm.trans v7e
    have v7w := (hR).2.2.2.2.1.at (p := p) ⟨by omega, by omega⟩
    refine s_iload_n kx_254_12 rfl ?_
    refine s_callV2 (k := 63) (s1 := 3) (s2 := 0) (as := [(0, r), (0, v7)]) (rest := []) kx_254_13 kp_254_511 (Or.inl rfl) rfl (tk_63 hT) ki_245 kcl_245 rfl rfl (by decide) (g_245 (d := d + 3) (a := v7) (b := r) hT hI hR (by omega) (by omega) (by omega) (by omega)) (kF (fun v8 v8p => ?_))
    have v8q := v8p.2.2
    rw [← v7d] at v8q
    refine s_goto (t := 36) kx_254_16 (by decide) ?_
    exact s_iret kx_254_36 (Or.inl kq_254) ⟨_, _, rfl, rfl, hI, hFm, ⟨by omega, by omega, by rw [v8q]; unfold pMi; rw [if_pos (by omega)]⟩⟩
