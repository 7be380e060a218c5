theorem g_271 {xs : Nat → Int} {Ln d : Nat} {T : List cK} {M : cM} (hT : TT T) (hI : Rng M) {a : Int} {D S : cM} (hR : RR D S M) {c who : Int} (hX : pSq M (D 0 0) (D 0 0) 0 (fun a b => pLx D S c who a b (D 0 1).toNat)) {to : Int} (hL : ∀ i : Nat, (i : Int) < D 0 0 → M 105 i = (pRL 100000000 D S c who to) i) (hfx : pFx (pPq D S c who) to.toNat (D 0 0).toNat 100000000 (pRL 100000000 D S c who to)) (hlt : (pRL 100000000 D S c who to) a.toNat < 100000000) (hat : a ≠ to) (hto : 0 ≤ to) (p0 : 0 ≤ a ∧ a ≤ 7) (p1 : a < D 0 0) : cC k_P xs Ln (d + 0) 271 [rf 63, (0, a)] (T, M) (qF T M 0 (fun v => 0 ≤ v ∧ v ≤ 7 ∧ (v = pOn (pPq D S c who) (pRL 100000000 D S c who to) (D 0 0).toNat a ∧ v < D 0 0))) := by
  show cP k_P xs Ln (d + 0) 271 0 [(0, rf 63), (1, (0, a))] [] (T, M) _
  have hD := hR.2.1
  have hDr := hD.rg
  have hSW := hR.2.2.2.2.1
  have hw := pOn_w hfx (show 0 ≤ a ∧ a < (((D 0 0).toNat : Nat) : Int) by omega) (by omega) hlt
  obtain ⟨w, hwe⟩ : ∃ w, owIx (pOg (pPq D S c who) (pRL 100000000 D S c who to) a.toNat) 1 (D 0 0).toNat = w := ⟨_, rfl⟩
  have hwr := hw.2.1
  rw [hwe] at hwr
  refine s_iconst (v := 0) kx_271_0 (by decide) ?_
  refine s_istore_n kx_271_1 km_271_2 rfl ?_
  have key2 : ∀ n3 : Nat, ∀ (x2_1 : Int), (0 ≤ x2_1) → (x2_1 ≤ 7) → (x2_1 ≤ w) → (owIF (pOg (pPq D S c who) (pRL 100000000 D S c who to) a.toNat) 1 (D 0 0 - x2_1).toNat (x2_1).toNat = w) → (2147483647 - x2_1).toNat < n3 → cP k_P xs Ln (d + 0) 271 2 [(0, rf 63), (1, (0, a)), (2, (0, x2_1))] [] (T, M) (qF T M 0 (fun v => 0 ≤ v ∧ v ≤ 7 ∧ (v = pOn (pPq D S c who) (pRL 100000000 D S c who to) (D 0 0).toNat a ∧ v < D 0 0))) := by
    intro n3
    induction n3 with
    | zero => intro x2_1 i4 i5 i6 i7 hm8; exact absurd hm8 (Nat.not_lt_zero _)
    | succ n3 ih9 =>
      intro x2_1 i4 i5 i6 i7 hm8
      refine s_aload_n kx_271_2 rfl ?_
      refine r_getR (k := 63) (f := 65) (k2 := 103) kx_271_3 kp_271_210 (tk_63 hT) kf_12_65 (by decide) (rq_63_65 hI) ?_
      refine s_bipush (v := 8) kx_271_6 (by decide) ?_
      refine s_iload_n kx_271_8 rfl ?_
      refine r_mul kx_271_9 ⟨by omega, by omega⟩ ?_
      refine s_iload_n kx_271_10 rfl ?_
      refine r_add kx_271_11 ⟨by omega, by omega⟩ ?_
      refine r_ald (k := 103) kx_271_12 (tk_103 hT) ⟨by omega, by omega⟩ (rg_103 hI) (fun v10 v10e v10a v10b => ?_)
      obtain ⟨v10pv, v10p⟩ : ∃ pv, pPq D S c who (a).toNat (x2_1).toNat = pv := ⟨_, rfl⟩
      have v10q := (pSq.at (a := a) (b := x2_1) hD hX ⟨by omega, by omega⟩ ⟨by omega, by omega⟩ ((congrArg (M 103) (by omega)).trans v10e) v10p).1
      refine s_aload_n kx_271_13 rfl ?_
      refine r_getR (k := 63) (f := 67) (k2 := 105) kx_271_14 kp_271_216 (tk_63 hT) kf_12_67 (by decide) (rq_63_67 hI) ?_
      refine s_iload_n kx_271_17 rfl ?_
      refine r_ald (k := 105) kx_271_18 (tk_105 hT) ⟨by omega, by omega⟩ (rg_105 hI) (fun v11 v11e v11a v11b => ?_)
      have v11l : (pRL 100000000 D S c who to) (x2_1).toNat = v11 := (hL _ (by omega)).symm.trans v11e
      have v11b := hfx.1 (x2_1).toNat
      rw [v11l] at v11b
      refine r_add kx_271_19 ⟨by omega, by omega⟩ ?_
      refine s_aload_n kx_271_20 rfl ?_
      refine r_getR (k := 63) (f := 67) (k2 := 105) kx_271_21 kp_271_216 (tk_63 hT) kf_12_67 (by decide) (rq_63_67 hI) ?_
      refine s_iload_n kx_271_24 rfl ?_
      refine r_ald (k := 105) kx_271_25 (tk_105 hT) ⟨by omega, by omega⟩ (rg_105 hI) (fun v12 v12e v12a v12b => ?_)
      have v12l : (pRL 100000000 D S c who to) (a).toNat = v12 := (hL _ (by omega)).symm.trans v12e
      have v12b := hfx.1 (a).toNat
      rw [v12l] at v12b
      have v12n := hlt
      rw [v12l] at v12n
      refine s_icmp_eq (t := 35) kx_271_26 (by decide) (fun hc13 => ?_) (fun hc13 => ?_)
      · refine s_iload_n kx_271_35 rfl ?_
        exact s_iret kx_271_36 (Or.inl kq_271) ⟨_, rfl, rfl, ⟨by omega, by omega, by have h9 := owIF_found i7 (by omega) (by omega) (by unfold pOg; rw [v10p, v11l, v12l]; exact if_pos (by omega)); rw [hw.1, hwe]; exact h9, by omega⟩⟩
      · refine r_iinc kx_271_29 rfl km_271_2 (by decide) ⟨by omega, by omega⟩ rfl ?_
        refine s_goto (t := 2) kx_271_32 (by decide) ?_
        have hnw : x2_1 ≠ w := fun z => by have h9 := hw.2.2; rw [hwe, ← z] at h9; unfold pOg at h9; rw [v10p, v11l, v12l] at h9; rw [if_neg (by omega)] at h9; omega
        exact cP.wk (lS1 rfl (lS1 rfl (lS1 rfl lS0))) (ih9 (x2_1 + 1) (by omega) (by omega) (by omega) (owIF_next i7 (by omega) (by omega) (by unfold pOg; rw [v10p, v11l, v12l]; rw [if_neg (by omega)]; decide)) (by omega))
  exact cP.wk (lS1 rfl (lS1 rfl (lS1 rfl lS0))) (key2 _ 0 (by omega) (by omega) (by omega) (by rw [show D 0 0 - 0 = D 0 0 by omega, ← hwe]; rfl) (Nat.lt_succ_self _))
def gR_272_m : List (Nat × Nat) := [(102, 99999), (103, 99999), (104, 99999), (105, 99999), (63, 62), (63, 63), (63, 64)]
def gR_272_l85 : List (Nat × Nat) := []
theorem g_272 {xs : Nat → Int} {Ln d : Nat} {T : List cK} {M : cM} (hT : TT T) (hI : Rng M) {who c to k isWho : Int} {D S : cM} (hR : RR D S M) (p0 : 0 ≤ isWho ∧ isWho ≤ 1) : cC k_P xs Ln (d + 5) 272 [rf 63, (0, who), (0, c), (0, to), (0, k), (0, isWho)] (T, M) (qW T M gR_272_m 0 (fun v M1 => v = pRt 100000000 D S c who to k isWho)) := by
  show cP k_P xs Ln (d + 5) 272 0 [(0, rf 63), (1, (0, who)), (2, (0, c)), (3, (0, to)), (4, (0, k)), (5, (0, isWho))] [] (T, M) _
  have hFm : Fr gR_272_m M M := Fr.refl
  have hD := hR.2.1
  have hDr := hD.rg
  have hSW := hR.2.2.2.2.1
  refine s_aload_n kx_272_0 rfl ?_
  refine s_iload_n kx_272_1 rfl ?_
  refine s_callV2 (k := 63) (s1 := 2) (s2 := 0) (as := [(0, c)]) (rest := []) kx_272_2 kp_272_514 (Or.inl rfl) rfl (tk_63 hT) ki_221 kcl_221 rfl rfl (by decide) (g_221 (d := d + 4) (p := c) hT hI hR) (kF (fun v1 v1p => ?_))
  refine s_if_eq (t := 32) kx_272_5 (by decide) (fun hc2 => ?_) (fun hc2 => ?_)
  · replace v1p := v1p.resolve_left (by omega)
    refine s_iconst (v := (-1)) kx_272_32 (by decide) ?_
    exact s_iret kx_272_33 (Or.inl kq_272) ⟨_, _, rfl, rfl, hI, hFm, (by unfold pRt; exact (if_neg (by omega)).symm)⟩
  · replace v1p := v1p.resolve_right (by omega)
    refine s_aload_n kx_272_8 rfl ?_
    refine s_iload_n kx_272_9 rfl ?_
    refine s_callV2 (k := 63) (s1 := 2) (s2 := 0) (as := [(0, to)]) (rest := []) kx_272_10 kp_272_508 (Or.inl rfl) rfl (tk_63 hT) ki_220 kcl_220 rfl rfl (by decide) (g_220 (d := d + 4) (r := to) hT hI hR) (kF (fun v3 v3p => ?_))
    refine s_if_eq (t := 32) kx_272_13 (by decide) (fun hc4 => ?_) (fun hc4 => ?_)
    · replace v3p := v3p.resolve_left (by omega)
      refine s_iconst (v := (-1)) kx_272_32 (by decide) ?_
      exact s_iret kx_272_33 (Or.inl kq_272) ⟨_, _, rfl, rfl, hI, hFm, (by unfold pRt; exact (if_neg (by omega)).symm)⟩
    · replace v3p := v3p.resolve_right (by omega)
      refine s_aload_n kx_272_16 rfl ?_
      refine r_getR (k := 63) (f := 50) (k2 := 94) kx_272_17 kp_272_165 (tk_63 hT) kf_12_50 (by decide) (rq_63_50 hI) ?_
      refine s_iload_n kx_272_20 rfl ?_
      refine r_aldU (k := 94) kx_272_21 (tk_94 hT) ⟨by omega, by omega⟩ (fun v5 v5e => ?_)
      have v5d := (RR.br hR (p := c) ⟨by omega, by omega⟩ (by omega)).symm.trans v5e
      have v5w := (hR).2.2.2.2.1.at (p := c) ⟨by omega, by omega⟩
      refine s_iconst (v := 1) kx_272_22 (by decide) ?_
      refine s_icmp_eq (t := 32) kx_272_23 (by decide) (fun hc6 => ?_) (fun hc6 => ?_)
      · refine s_iconst (v := (-1)) kx_272_32 (by decide) ?_
        exact s_iret kx_272_33 (Or.inl kq_272) ⟨_, _, rfl, rfl, hI, hFm, (by unfold pRt; exact (if_neg (by omega)).symm)⟩
      · refine s_iload kx_272_26 rfl ?_
        refine s_iconst (v := (-1)) kx_272_28 (by decide) ?_
        refine s_icmp_ge (t := 34) kx_272_29 (by decide) (fun hc7 => ?_) (fun hc7 => ?_)
        · refine s_aload_n kx_272_34 rfl ?_
          refine s_iload_n kx_272_35 rfl ?_
          refine s_iload_n kx_272_36 rfl ?_
          refine s_callV2 (k := 63) (s1 := 3) (s2 := 0) (as := [(0, c), (0, who)]) (rest := []) kx_272_37 kp_272_572 (Or.inl rfl) rfl (tk_63 hT) ki_269 kcl_269 rfl rfl (by decide) (g_269 (d := d) (who := who) (c := c) hT hI hR (by omega) (by omega)) (kV (fun M9 hI9 fr9 v8p => ?_))
          have hFm9 := hFm.call fr9 rfl
          have hc10 := v8p.1
          refine s_aload_n kx_272_40 rfl ?_
          refine s_iload_n kx_272_41 rfl ?_
          refine s_callV2 (k := 63) (s1 := 2) (s2 := 0) (as := [(0, to)]) (rest := []) kx_272_42 kp_272_575 (Or.inl rfl) rfl (tk_63 hT) ki_270 kcl_270 rfl rfl (by decide) (g_270 (d := d + 4) (to := to) hT hI9 hc10 v8p.2 (by omega) (by omega)) (kV (fun M12 hI12 fr12 v11p => ?_))
          have hFm12 := hFm9.call fr12 rfl
          have hll : ∀ i : Nat, (i : Int) < D 0 0 → M12 105 i = (pRL 100000000 D S c who to) i := v11p.2.1
          have hfx : pFx (pPq D S c who) to.toNat (D 0 0).toNat 100000000 (pRL 100000000 D S c who to) := pFx_it (by decide) (by omega) (by omega)
          have hc13 := v11p.1
          refine s_aload_n kx_272_45 rfl ?_
          refine r_getR (k := 63) (f := 49) (k2 := 93) kx_272_46 kp_272_162 (tk_63 hT) kf_12_49 (by decide) (rq_63_49 hI12) ?_
          refine s_iload_n kx_272_49 rfl ?_
          refine r_ald (k := 93) kx_272_50 (tk_93 hT) ⟨by omega, by omega⟩ (rg_93 hI12 (by omega)) (fun v14 v14e v14a v14b => ?_)
          have v14d := (RR.ch hc13 (p := c) ⟨by omega, by omega⟩ (by omega)).symm.trans v14e
          have v14w := (hc13).2.2.2.2.1.at (p := c) ⟨by omega, by omega⟩
          refine s_istore kx_272_51 km_272_6 rfl ?_
          refine s_aload_n kx_272_53 rfl ?_
          refine r_getR (k := 63) (f := 67) (k2 := 105) kx_272_54 kp_272_216 (tk_63 hT) kf_12_67 (by decide) (rq_63_67 hI12) ?_
          refine s_iload kx_272_57 rfl ?_
          refine r_ald (k := 105) kx_272_59 (tk_105 hT) ⟨by omega, by omega⟩ (rg_105 hI12) (fun v15 v15e v15a v15b => ?_)
          have v15l : (pRL 100000000 D S c who to) (S 1 c.toNat).toNat = v15 := by rw [v14d]; exact (hll _ (by omega)).symm.trans v15e
          refine s_ldc_w kx_272_60 kp_272_571 ?_
          refine s_icmp_lt (t := 68) kx_272_63 (by decide) (fun hc16 => ?_) (fun hc16 => ?_)
          · refine s_iload kx_272_68 rfl ?_
            refine s_iconst (v := (-1)) kx_272_70 (by decide) ?_
            refine s_icmp_ne (t := 82) kx_272_71 (by decide) (fun hc17 => ?_) (fun hc17 => ?_)
            · refine s_iconst (v := 0) kx_272_82 (by decide) ?_
              refine s_istore kx_272_83 km_272_7 rfl ?_
              have key20 : ∀ n21 : Nat, ∀ (x6_18 x7_19 : Int), (0 ≤ x6_18) → (x6_18 ≤ 7) → (0 ≤ x7_19) → (x7_19 ≤ 8) → (x7_19 ≤ k) → (x6_18 < D 0 0) → (x6_18 = pRA 100000000 D S c who to (x7_19).toNat) → (pNe (pRA 100000000 D S c who to) to (x7_19).toNat = 1) → (2147483647 - x7_19).toNat < n21 → cP k_P xs Ln (d + 5) 272 85 [(0, rf 63), (3, (0, to)), (4, (0, k)), (5, (0, isWho)), (6, (0, x6_18)), (7, (0, x7_19))] [] (T, M12) (qW T M gR_272_m 0 (fun v M1 => v = pRt 100000000 D S c who to k isWho)) := by
                intro n21
                induction n21 with
                | zero => intro x6_18 x7_19 i22 i23 i24 i25 i26 i27 i28 i29 hm30; exact absurd hm30 (Nat.not_lt_zero _)
                | succ n21 ih31 =>
                  intro x6_18 x7_19 i22 i23 i24 i25 i26 i27 i28 i29 hm30
                  refine s_iload kx_272_85 rfl ?_
                  refine s_iload_n kx_272_87 rfl ?_
                  refine s_icmp_eq (t := 140) kx_272_88 (by decide) (fun hc32 => ?_) (fun hc32 => ?_)
                  · refine s_iconst (v := (-1)) kx_272_140 (by decide) ?_
                    exact s_iret kx_272_141 (Or.inl kq_272) ⟨_, _, rfl, rfl, hI12, hFm12, (by unfold pRt; rw [if_pos ⟨⟨by omega, by omega⟩, ⟨by omega, by omega⟩, by omega, by omega⟩, if_neg (by rw [v15l]; omega), if_neg (show ¬ k = -1 by omega), if_neg (pNe_0 (j := (x7_19).toNat) (by omega) (by rw [← i28]; omega))])⟩
                  · have hnr := pAt_r hfx (a := S 1 c.toNat) ⟨by omega, by omega⟩ (by rw [v15l]; omega) (x7_19).toNat (fun j hj => by have h8 := pNe_1 i29 j hj; unfold pRA at h8; omega)
                    have hrn := pRk_n1 (F := (pRL 100000000 D S c who to)) (D 0 0).toNat (S 1 c.toNat).toNat (by omega)
                    have hal : (pRL 100000000 D S c who to) (x6_18).toNat < 100000000 := by rw [i28]; exact hnr.2.1
                    refine s_aload_n kx_272_91 rfl ?_
                    refine s_iload kx_272_92 rfl ?_
                    refine s_callV2 (k := 63) (s1 := 2) (s2 := 0) (as := [(0, x6_18)]) (rest := []) kx_272_94 kp_272_578 (Or.inl rfl) rfl (tk_63 hT) ki_271 kcl_271 rfl rfl (by decide) (g_271 (d := d + 4) (a := x6_18) hT hI12 hc13 v11p.2.2 hll hfx hal (by omega) (by omega) (by omega) (by omega)) (kF (fun v33 v33p => ?_))
                    have v33q : v33 = pRA 100000000 D S c who to ((x7_19).toNat + 1) := by have h9 := v33p.2.2.1; rw [show x6_18 = pRA 100000000 D S c who to (x7_19).toNat from i28] at h9; exact h9
                    have v33n : pNe (pRA 100000000 D S c who to) to ((x7_19).toNat + 1) = 1 := if_pos ⟨i29, by rw [← i28]; omega⟩
                    refine s_istore kx_272_97 km_272_8 rfl ?_
                    refine s_iload kx_272_99 rfl ?_
                    refine s_iload kx_272_101 rfl ?_
                    refine s_icmp_ne (t := 130) kx_272_103 (by decide) (fun hc34 => ?_) (fun hc34 => ?_)
                    · refine s_iload kx_272_130 rfl ?_
                      refine s_istore kx_272_132 km_272_6 rfl ?_
                      refine r_iinc kx_272_134 rfl km_272_7 (by decide) ⟨by omega, by omega⟩ rfl ?_
                      refine s_goto (t := 85) kx_272_137 (by decide) ?_
                      exact cP.wk (lS1 rfl (lS1 rfl (lS1 rfl (lS1 rfl (lS1 rfl (lS1 rfl lS0)))))) (ih31 v33 (x7_19 + 1) (by omega) (by omega) (by omega) (by omega) (by omega) (by omega) (by rw [show (x7_19 + 1).toNat = (x7_19).toNat + 1 by omega]; exact v33q) (by rw [show (x7_19 + 1).toNat = (x7_19).toNat + 1 by omega]; exact v33n) (by omega))
                    · refine s_iload kx_272_106 rfl ?_
                      refine s_if_eq (t := 127) kx_272_108 (by decide) (fun hc35 => ?_) (fun hc35 => ?_)
                      · refine s_iload kx_272_127 rfl ?_
                        exact s_iret kx_272_129 (Or.inl kq_272) ⟨_, _, rfl, rfl, hI12, hFm12, (by unfold pRt; rw [if_pos ⟨⟨by omega, by omega⟩, ⟨by omega, by omega⟩, by omega, by omega⟩, if_neg (by rw [v15l]; omega), if_neg (show ¬ k = -1 by omega), show k.toNat = (x7_19).toNat by omega, if_pos v33n, if_neg (by omega)]; exact v33q)⟩
                      · refine s_aload_n kx_272_111 rfl ?_
                        refine r_getR (k := 63) (f := 66) (k2 := 104) kx_272_112 kp_272_213 (tk_63 hT) kf_12_66 (by decide) (rq_63_66 hI12) ?_
                        refine s_bipush (v := 8) kx_272_115 (by decide) ?_
                        refine s_iload kx_272_117 rfl ?_
                        refine r_mul kx_272_119 ⟨by omega, by omega⟩ ?_
                        refine s_iload kx_272_120 rfl ?_
                        refine r_add kx_272_122 ⟨by omega, by omega⟩ ?_
                        refine r_ald (k := 104) kx_272_123 (tk_104 hT) ⟨by omega, by omega⟩ (rg_104 hI12) (fun v36 v36e v36a v36b => ?_)
                        refine s_goto (t := 129) kx_272_124 (by decide) ?_
                        exact s_iret kx_272_129 (Or.inl kq_272) ⟨_, _, rfl, rfl, hI12, hFm12, (by unfold pRt; rw [if_pos ⟨⟨by omega, by omega⟩, ⟨by omega, by omega⟩, by omega, by omega⟩, if_neg (by rw [v15l]; omega), if_neg (show ¬ k = -1 by omega), show k.toNat = (x7_19).toNat by omega, if_pos v33n, if_pos (by omega), ← v33q, ← i28]; exact (v36e.symm.trans ((congrArg (M12 104) (by omega)).trans ((pSq.at (a := x6_18) (b := v33) hD v11p.2.2 ⟨by omega, by omega⟩ ⟨by omega, by omega⟩ rfl rfl).2 (by have h7 := (pOn_r hfx (a := x6_18) ⟨by omega, by omega⟩ (by omega) hal).2.1; have h6 := v33p.2.2.1; rw [← h6] at h7; omega)))))⟩
              exact cP.wk (lS1 rfl (lS1 rfl (lS1 rfl (lS1 rfl (lS1 rfl (lS1 rfl lS0)))))) (key20 _ v14 0 (by omega) (by omega) (by omega) (by omega) (by omega) (by omega) (v14d).symm rfl (Nat.lt_succ_self _))
            · refine s_aload_n kx_272_74 rfl ?_
              refine r_getR (k := 63) (f := 67) (k2 := 105) kx_272_75 kp_272_216 (tk_63 hT) kf_12_67 (by decide) (rq_63_67 hI12) ?_
              refine s_iload kx_272_78 rfl ?_
              refine r_aldK (k := 105) kx_272_80 (tk_105 hT) ⟨by omega, by omega⟩ v15e ?_
              exact s_iret kx_272_81 (Or.inl kq_272) ⟨_, _, rfl, rfl, hI12, hFm12, (by unfold pRt; rw [if_pos ⟨⟨by omega, by omega⟩, ⟨by omega, by omega⟩, by omega, by omega⟩, if_neg (by rw [v15l]; omega), if_pos (show k = -1 by omega), v15l])⟩
          · refine s_iconst (v := (-1)) kx_272_66 (by decide) ?_
            exact s_iret kx_272_67 (Or.inl kq_272) ⟨_, _, rfl, rfl, hI12, hFm12, (by unfold pRt; rw [if_pos ⟨⟨by omega, by omega⟩, ⟨by omega, by omega⟩, by omega, by omega⟩, if_pos (by rw [v15l]; omega)])⟩
        · refine s_iconst (v := (-1)) kx_272_32 (by decide) ?_
          exact s_iret kx_272_33 (Or.inl kq_272) ⟨_, _, rfl, rfl, hI, hFm, (by unfold pRt; exact (if_neg (by omega)).symm)⟩
def gR_273_m : List (Nat × Nat) := [(102, 99999), (103, 99999), (104, 99999), (105, 99999), (63, 62), (63, 63), (63, 64)]
theorem g_273 {xs : Nat → Int} {Ln d : Nat} {T : List cK} {M : cM} (hT : TT T) (hI : Rng M) {p c to k : Int} {D S : cM} (hR : RR D S M) : cC k_P xs Ln (d + 6) 273 [rf 63, (0, p), (0, c), (0, to), (0, k)] (T, M) (qW T M gR_273_m 0 (fun v M1 => v = if 0 ≤ p ∧ p < D 0 1 then pRt 100000000 D S c p to k 0 else -1)) := by
  show cP k_P xs Ln (d + 6) 273 0 [(0, rf 63), (1, (0, p)), (2, (0, c)), (3, (0, to)), (4, (0, k))] [] (T, M) _
  have hFm : Fr gR_273_m M M := Fr.refl
  have hD := hR.2.1
  have hDr := hD.rg
  have hSW := hR.2.2.2.2.1
  refine s_aload_n kx_273_0 rfl ?_
  refine s_iload_n kx_273_1 rfl ?_
  refine s_callV2 (k := 63) (s1 := 2) (s2 := 0) (as := [(0, p)]) (rest := []) kx_273_2 kp_273_514 (Or.inl rfl) rfl (tk_63 hT) ki_221 kcl_221 rfl rfl (by decide) (g_221 (d := d + 5) (p := p) hT hI hR) (kF (fun v1 v1p => ?_))
  refine s_if_eq (t := 21) kx_273_5 (by decide) (fun hc2 => ?_) (fun hc2 => ?_)
  · replace v1p := v1p.resolve_left (by omega)
    refine s_iconst (v := (-1)) kx_273_21 (by decide) ?_
    exact s_iret kx_273_22 (Or.inl kq_273) ⟨_, _, rfl, rfl, hI, hFm, ((if_neg (by omega)).symm)⟩
  · replace v1p := v1p.resolve_right (by omega)
    refine s_aload_n kx_273_8 rfl ?_
    refine s_iload_n kx_273_9 rfl ?_
    refine s_iload_n kx_273_10 rfl ?_
    refine s_iload_n kx_273_11 rfl ?_
    refine s_iload kx_273_12 rfl ?_
    refine s_iconst (v := 0) kx_273_14 (by decide) ?_
    refine s_callV2 (k := 63) (s1 := 6) (s2 := 0) (as := [(0, 0), (0, k), (0, to), (0, c), (0, p)]) (rest := []) kx_273_15 kp_273_581 (Or.inl rfl) rfl (tk_63 hT) ki_272 kcl_272 rfl rfl (by decide) (g_272 (d := d) (who := p) (c := c) (to := to) (k := k) (isWho := 0) hT hI hR (by omega)) (kW (fun v3 M4 hI4 fr4 v3p => ?_))
    have hFm4 := hFm.call fr4 rfl
    have hc5 := (RR.fr hR fr4 rfl)
    refine s_goto (t := 22) kx_273_18 (by decide) ?_
    exact s_iret kx_273_22 (Or.inl kq_273) ⟨_, _, rfl, rfl, hI4, hFm4, (v3p.trans (if_pos (by omega)).symm)⟩
def gR_274_m : List (Nat × Nat) := [(102, 99999), (103, 99999), (104, 99999), (105, 99999), (63, 62), (63, 63), (63, 64)]
theorem g_274 {xs : Nat → Int} {Ln d : Nat} {T : List cK} {M : cM} (hT : TT T) (hI : Rng M) {c to k : Int} {D S : cM} (hR : RR D S M) : cC k_P xs Ln (d + 6) 274 [rf 63, (0, c), (0, to), (0, k)] (T, M) (qW T M gR_274_m 0 (fun v M1 => v = pRt 100000000 D S c (-1) to k 1)) := by
  show cP k_P xs Ln (d + 6) 274 0 [(0, rf 63), (1, (0, c)), (2, (0, to)), (3, (0, k))] [] (T, M) _
  have hFm : Fr gR_274_m M M := Fr.refl
  have hD := hR.2.1
  have hDr := hD.rg
  have hSW := hR.2.2.2.2.1
  refine s_aload_n kx_274_0 rfl ?_
  refine s_iconst (v := (-1)) kx_274_1 (by decide) ?_
  refine s_iload_n kx_274_2 rfl ?_
  refine s_iload_n kx_274_3 rfl ?_
  refine s_iload_n kx_274_4 rfl ?_
  refine s_iconst (v := 1) kx_274_5 (by decide) ?_
  refine s_callV2 (k := 63) (s1 := 6) (s2 := 0) (as := [(0, 1), (0, k), (0, to), (0, c), (0, (-1))]) (rest := []) kx_274_6 kp_274_581 (Or.inl rfl) rfl (tk_63 hT) ki_272 kcl_272 rfl rfl (by decide) (g_272 (d := d) (who := (-1)) (c := c) (to := to) (k := k) (isWho := 1) hT hI hR (by omega)) (kW (fun v1 M2 hI2 fr2 v1p => ?_))
  have hFm2 := hFm.call fr2 rfl
  have hc3 := (RR.fr hR fr2 rfl)
  exact s_iret kx_274_9 (Or.inl kq_274) ⟨_, _, rfl, rfl, hI2, hFm2, v1p⟩
