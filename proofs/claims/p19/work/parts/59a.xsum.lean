def gS_90_l13 : List (Nat × Nat) := [(114, 99999), (19, 1), (19, 2), (21, 99999), (22, 1), (22, 2), (24, 99999), (36, 1), (36, 2), (38, 99999), (39, 1), (39, 2), (41, 99999), (5, 2), (5, 3), (5, 4), (5, 5), (5, 6), (5, 7)]
theorem f_90 {xs : Nat → Int} {Ln d : Nat} {T : List cK} {M : cM} (hT : TT T) (hI : Rng M) (h50 : M 5 0 = ((2 : Nat) : Int)) {f : Nat} (hf : fF f) (hG : Gm T M) {o k : Int} {s : Nat → Int} {n p : Int} (hA : LxA M s n p) (hL : o < 7 → Lf xs Ln d (o + 1)) (p0 : 0 ≤ o ∧ o ≤ 7) (p1 : 0 ≤ k) (p2 : M f 2 + k ≤ M 5 2 ∧ (M 5 3 = 0 ∨ M 5 3 = 5 ∨ M f 2 + k + 1 ≤ M 5 2)) : cC k_P xs Ln (d + 6) 90 [rf 4, rf f, (0, o)] (T, M) (qG T M fS_par 0 (fun v M1 => (v = 1 ∧ (M1 f 2 + k ≤ M1 5 2 ∧ (M1 5 3 = 0 ∨ M1 5 3 = 5 ∨ M1 f 2 + k + 1 ≤ M1 5 2)) ∧ (M f 2 + 1 ≤ M1 f 2 ∧ OFp f M M1) ∧ SumO M f M1 s n p 0 (fun c q => LvOk s n 6 o p c q ∧ ¬ 12 ≤ owAo s n q)) ∨ (v = 0 ∧ (M1 f 2 + k ≤ M1 5 2 ∧ OFp f M M1) ∧ SumX M1 (fun g => LvX s n 6 o p g)))) := by
  show cP k_P xs Ln (d + 6) 90 0 [(0, rf 4), (1, rf f), (2, (0, o))] [] (T, M) _
  have hFm : Fr fS_par M M := Fr.refl
  have h51 := hA.2.1
  have h0 := hA.2.2.1
  have hpn := hA.2.2.2.1
  have h53 := hA.2.2.2.2.1
  have h55 := hA.2.2.2.2.2.1
  have h51r := rg_5_1 hI
  have h52 := rg_5_2 hI
  have h53r := rg_5_3 hI
  refine s_aload_n kx_90_0 rfl ?_
  refine s_aload_n kx_90_1 rfl ?_
  refine s_iload_n kx_90_2 rfl ?_
  refine s_callV2 (k := 4) (s1 := 3) (s2 := 0) (as := [(0, o), rf f]) (rest := []) kx_90_3 kp_90_35 (Or.inl rfl) rfl (tk_4 hT) ki_92 kcl_92 rfl rfl (by decide) (f_92 (d := d) (o := o) (k := k) hT hI h50 hf hG hA (fun h => (hL h).deep (by omega)) (by omega) (by omega) (by omega)) (kG (fun v1 T2 M2 hT2 hI2 fr2 hG2 v1p => ?_))
  have hFm2 := hFm.call fr2 rfl
  have tr3 := rg_5_2 hI2
  have tr4 := rg_5_3 hI2
  have hof5 := OFp.trans (OFp.refl (M := M)) (v1p.elim (fun z => z.2.2.1.2) (fun z => z.2.1.2))
  refine s_if_ne (t := 11) kx_90_6 (by decide) (fun hc6 => ?_) (fun hc6 => ?_)
  · replace v1p := v1p.resolve_right (by omega)
    obtain ⟨c0, q0, q0l, q0p, q0o, q0g⟩ := v1p.2.2.2
    have hfg7 := FCg.trans0 (FCg.refl (rgf_0_2 hI hf).1) q0g
    have q0b := q0l.2.1
    have q0c := q0l.2.2.1
    have q0d := q0l.2.2.2.1
    have q0e := q0l.2.2.2.2.1
    have q0f := q0l.2.2.2.2.2.1
    refine s_iconst (v := 0) kx_90_11 (by decide) ?_
    refine s_istore_n kx_90_12 km_90_3 rfl ?_
    have key10 : ∀ n11 : Nat, ∀ (x3_8 : Int), ∀ T9 : List cK, TT T9 → ∀ M9 : cM, Rng M9 → Fr fS_par M M9 → Fr gS_90_l13 M2 M9 → Gm T9 M9 → (0 ≤ x3_8) → (OFp f M M9) → (M9 f 2 + k ≤ M9 5 2) → ((M9 5 3 = 0 ∨ M9 5 3 = 5 ∨ M9 f 2 + k + 1 ≤ M9 5 2)) → (M f 2 + 1 ≤ M9 f 2) → (SumO M f M9 s n p x3_8 (fun c q => LvOk s n 6 o p c q)) → (2147483647 - x3_8).toNat < n11 → cP k_P xs Ln (d + 6) 90 13 [(0, rf 4), (1, rf f), (2, (0, o)), (3, (0, x3_8))] [] (T9, M9) (qG T M fS_par 0 (fun v M1 => (v = 1 ∧ (M1 f 2 + k ≤ M1 5 2 ∧ (M1 5 3 = 0 ∨ M1 5 3 = 5 ∨ M1 f 2 + k + 1 ≤ M1 5 2)) ∧ (M f 2 + 1 ≤ M1 f 2 ∧ OFp f M M1) ∧ SumO M f M1 s n p 0 (fun c q => LvOk s n 6 o p c q ∧ ¬ 12 ≤ owAo s n q)) ∨ (v = 0 ∧ (M1 f 2 + k ≤ M1 5 2 ∧ OFp f M M1) ∧ SumX M1 (fun g => LvX s n 6 o p g)))) := by
      intro n11
      induction n11 with
      | zero => intro x3_8 T9 hT9 M9 hI9 hFm9 fl9 hG9 i12 i13 i14 i15 i16 i17 hm18; exact absurd hm18 (Nat.not_lt_zero _)
      | succ n11 ih19 =>
        intro x3_8 T9 hT9 M9 hI9 hFm9 fl9 hG9 i12 i13 i14 i15 i16 i17 hm18
        have tr20 := rg_5_2 hI9
        have tr21 := rg_5_3 hI9
        obtain ⟨c1, q1, q1l, q1p, q1o, q1g⟩ := i17
        have q1b := q1l.2.1; have q1c := q1l.2.2.1
        have q1d := q1l.2.2.2.1
        have q1e := q1l.2.2.2.2.1
        have q1f := q1l.2.2.2.2.2.1
        refine s_iload_n kx_90_13 rfl ?_
        refine s_sipush (v := 1600) kx_90_14 (by decide) ?_
        refine s_icmp_ge (t := 63) kx_90_17 (by decide) (fun hc22 => ?_) (fun hc22 => ?_)
        · exact absurd q1p (by omega)
        · refine s_aload_n kx_90_20 rfl ?_
          refine s_callV2 (k := 4) (s1 := 1) (s2 := 0) (as := []) (rest := []) kx_90_21 kp_90_38 (Or.inl rfl) rfl (tk_4 hT9) ki_91 kcl_91 rfl rfl (by decide) (f_91 (d := d + 4) hT9 hI9 q1l) (kF (fun v23 v23p => ?_))
          refine s_if_eq (t := 63) kx_90_24 (by decide) (fun hc24 => ?_) (fun hc24 => ?_)
          · replace v23p := v23p.resolve_left (by omega)
            have ho25 : SumC M9 s n p 0 (fun c q => LvOk s n 6 o p c q ∧ ¬ 12 ≤ owAo s n q) _ := ⟨q1, q1l, by omega, q1o, by omega⟩
            refine s_iconst (v := 1) kx_90_63 (by decide) ?_
            exact s_iret kx_90_64 (Or.inr ⟨kq_90, by omega⟩) ⟨_, _, _, rfl, rfl, hT9, hI9, hFm9, hG9, (Or.inl ⟨rfl, ⟨by omega, by omega⟩, ⟨by omega, i13⟩, (SumC.o ho25 q1g)⟩)⟩
          · replace v23p := v23p.resolve_right (by omega)
            refine s_aload_n kx_90_27 rfl ?_
            refine s_callV2 (k := 4) (s1 := 1) (s2 := 0) (as := []) (rest := []) kx_90_28 kp_90_38 (Or.inl rfl) rfl (tk_4 hT9) ki_91 kcl_91 rfl rfl (by decide) (f_91 (d := d + 4) hT9 hI9 q1l) (kF (fun v26 v26p => ?_))
            have hst := v26p.resolve_right (by omega)
            refine s_istore kx_90_31 km_90_4 rfl ?_
            refine s_aload_n kx_90_33 rfl ?_
            refine r_getR (k := 4) (f := 0) (k2 := 5) kx_90_34 kp_90_12 (tk_4 hT9) kf_7_0 (by decide) (rq_4_0 hI9) ?_
            refine s_callV2 (k := 5) (s1 := 1) (s2 := 0) (as := []) (rest := []) kx_90_37 kp_90_28 (Or.inl rfl) rfl (tk_5 hT9) ki_26 kcl_26 rfl rfl (by decide) (f_26 (d := d + 3) hT9 hI9 ((fl9 5 0 rfl).trans ((fr2 5 0 rfl).trans h50)) (LxA.nx q1l (by omega) (by omega))) (kV (fun M28 hI28 fr28 v27p => ?_))
            have hFm28 := hFm9.call fr28 rfl
            have hFl1328 := fl9.call fr28 rfl
            have tr29 := (fr28 f 2 (by rcases hf with rfl | rfl | rfl | rfl <;> rfl))
            have tr30 := rg_5_2 hI28
            have tr31 := rg_5_3 hI28
            have la32b := (v27p.1).2.1
            have la32c := (v27p.1).2.2.1
            have la32d := (v27p.1).2.2.2.1
            have la32e := (v27p.1).2.2.2.2.1
            have la32f := (v27p.1).2.2.2.2.2.1
            have la32z := owE_gt (s := s) (q1l).2.2.2.1 (by omega)
            refine s_aload_n kx_90_40 rfl ?_
            refine s_aload_n kx_90_41 rfl ?_
            refine s_iload_n kx_90_42 rfl ?_
            refine s_callV2 (k := 4) (s1 := 3) (s2 := 0) (as := [(0, o), rf f]) (rest := []) kx_90_43 kp_90_35 (Or.inl rfl) rfl (tk_4 hT9) ki_92 kcl_92 rfl rfl (by decide) (f_92 (d := d) (o := o) (k := k + 1) hT9 hI28 ((fr28 5 0 rfl).trans ((fl9 5 0 rfl).trans ((fr2 5 0 rfl).trans h50))) hf (Gm.fr hG9 fr28 rfl) v27p.1 (fun h => (hL h).deep (by omega)) (by omega) (by omega) (by omega)) (kG (fun v33 T34 M34 hT34 hI34 fr34 hG34 v33p => ?_))
            have hFm34 := hFm28.call fr34 rfl
            have hFl1334 := hFl1328.call fr34 rfl
            have tr35 := rg_5_2 hI34
            have tr36 := rg_5_3 hI34
            have hof37 := OFp.trans (OFp.fr i13 fr28 rfl) (v33p.elim (fun z => z.2.2.1.2) (fun z => z.2.1.2))
            refine s_if_ne (t := 51) kx_90_46 (by decide) (fun hc38 => ?_) (fun hc38 => ?_)
            · replace v33p := v33p.resolve_right (by omega)
              obtain ⟨c2, q2, q2l, q2p, q2o, q2g⟩ := v33p.2.2.2
              have hfg39 := FCg.trans (FCg.fr q1g hf fr28 rfl) q2g
              have q2b := q2l.2.1
              have q2c := q2l.2.2.1
              have q2d := q2l.2.2.2.1
              have q2e := q2l.2.2.2.2.1
              have q2f := q2l.2.2.2.2.2.1
              refine s_aload_n kx_90_51 rfl ?_
              refine s_iload kx_90_52 rfl ?_
              refine s_callV2 (k := f) (s1 := 2) (s2 := 0) (as := [(0, v26)]) (rest := []) kx_90_54 kp_90_31 (Or.inl rfl) rfl (tkf_0 hT34 hf) ki_10 kcl_10 rfl rfl (by decide) (f_10 (d := d + 3) (step := v26) hT34 hI34 hf hG34 (by omega)) (kGV (fun T41 M41 hT41 hI41 fr41 hG41 v40p => ?_))
              have hFm41 := hFm34.call fr41 rfl
              have hFl1341 := hFl1334.call fr41 rfl
              have tr42 := (fr41 5 2 rfl)
              have tr43 := (fr41 5 3 rfl)
              have tr44 := rg_5_2 hI41
              have tr45 := rg_5_3 hI41
              have hfg47 := FCg.trans hfg39 v40p.2.2
              have hof46 := OFp.trans hof37 v40p.2.1
              refine r_iinc kx_90_57 rfl km_90_3 (by decide) ⟨by omega, by omega⟩ rfl ?_
              refine s_goto (t := 13) kx_90_60 (by decide) ?_
              exact cP.wk (lS1 rfl (lS1 rfl (lS1 rfl (lS1 rfl lS0)))) (ih19 (x3_8 + 1) T41 hT41 M41 hI41 hFm41 hFl1341 hG41 (by omega) hof46 (by omega) (by omega) (by omega) ⟨_, _, (LxA.fr q2l fr41 rfl), by omega, pd_step q1o (by omega) q2o, FCg.op hfg47 (by omega)⟩ (by omega))
            · replace v33p := v33p.resolve_left (by omega)
              have hx48 : SumX M34 (fun g => LvX s n 6 o p g) := (v33p.2.2.mono (fun g z => pd_xst q1o (by omega) z))
              refine s_iconst (v := 0) kx_90_49 (by decide) ?_
              exact s_iret kx_90_50 (Or.inr ⟨kq_90, by omega⟩) ⟨_, _, _, rfl, rfl, hT34, hI34, hFm34, hG34, (Or.inr ⟨rfl, ⟨by omega, hof37⟩, hx48⟩)⟩
    exact cP.wk (lS1 rfl (lS1 rfl (lS1 rfl (lS1 rfl lS0)))) (key10 _ 0 T2 hT2 M2 hI2 hFm2 Fr.refl hG2 (by omega) hof5 (by omega) (by omega) (by omega) ⟨_, _, q0l, by omega, pd_base q0o, hfg7⟩ (Nat.lt_succ_self _))
  · replace v1p := v1p.resolve_left (by omega)
    have hx49 : SumX M2 (fun g => LvX s n 6 o p g) := (v1p.2.2.mono (fun g z => pd_xb z))
    refine s_iconst (v := 0) kx_90_9 (by decide) ?_
    exact s_iret kx_90_10 (Or.inr ⟨kq_90, by omega⟩) ⟨_, _, _, rfl, rfl, hT2, hI2, hFm2, hG2, (Or.inr ⟨rfl, ⟨by omega, hof5⟩, hx49⟩)⟩
def gS_89_l13 : List (Nat × Nat) := [(114, 99999), (19, 1), (19, 2), (21, 99999), (22, 1), (22, 2), (24, 99999), (36, 1), (36, 2), (38, 99999), (39, 1), (39, 2), (41, 99999), (5, 2), (5, 3), (5, 4), (5, 5), (5, 6), (5, 7)]
theorem f_89 {xs : Nat → Int} {Ln d : Nat} {T : List cK} {M : cM} (hT : TT T) (hI : Rng M) (h50 : M 5 0 = ((2 : Nat) : Int)) {f : Nat} (hf : fF f) (hG : Gm T M) {o k : Int} {s : Nat → Int} {n p : Int} (hA : LxA M s n p) (hL : o < 7 → Lf xs Ln d (o + 1)) (p0 : 0 ≤ o ∧ o ≤ 7) (p1 : 0 ≤ k) (p2 : M f 2 + k ≤ M 5 2 ∧ (M 5 3 = 0 ∨ M 5 3 = 5 ∨ M f 2 + k + 1 ≤ M 5 2)) : cC k_P xs Ln (d + 7) 89 [rf 4, rf f, (0, o)] (T, M) (qG T M fS_par 0 (fun v M1 => (v = 1 ∧ (M1 f 2 + k ≤ M1 5 2 ∧ (M1 5 3 = 0 ∨ M1 5 3 = 5 ∨ M1 f 2 + k + 1 ≤ M1 5 2)) ∧ (M f 2 + 1 ≤ M1 f 2 ∧ OFp f M M1) ∧ SumO M f M1 s n p 0 (fun c q => LvOk s n 5 o p c q ∧ owAo s n q = 0)) ∨ (v = 0 ∧ (M1 f 2 + k ≤ M1 5 2 ∧ OFp f M M1) ∧ SumX M1 (fun g => LvX s n 5 o p g)))) := by
  show cP k_P xs Ln (d + 7) 89 0 [(0, rf 4), (1, rf f), (2, (0, o))] [] (T, M) _
  have hFm : Fr fS_par M M := Fr.refl
  have h51 := hA.2.1
  have h0 := hA.2.2.1
  have hpn := hA.2.2.2.1
  have h53 := hA.2.2.2.2.1
  have h55 := hA.2.2.2.2.2.1
  have h51r := rg_5_1 hI
  have h52 := rg_5_2 hI
  have h53r := rg_5_3 hI
  refine s_aload_n kx_89_0 rfl ?_
  refine s_aload_n kx_89_1 rfl ?_
  refine s_iload_n kx_89_2 rfl ?_
  refine s_callV2 (k := 4) (s1 := 3) (s2 := 0) (as := [(0, o), rf f]) (rest := []) kx_89_3 kp_89_18 (Or.inl rfl) rfl (tk_4 hT) ki_90 kcl_90 rfl rfl (by decide) (f_90 (d := d) (o := o) (k := k) hT hI h50 hf hG hA (fun h => (hL h).deep (by omega)) (by omega) (by omega) (by omega)) (kG (fun v1 T2 M2 hT2 hI2 fr2 hG2 v1p => ?_))
  have hFm2 := hFm.call fr2 rfl
  have tr3 := rg_5_2 hI2
  have tr4 := rg_5_3 hI2
  have hof5 := OFp.trans (OFp.refl (M := M)) (v1p.elim (fun z => z.2.2.1.2) (fun z => z.2.1.2))
  refine s_if_ne (t := 11) kx_89_6 (by decide) (fun hc6 => ?_) (fun hc6 => ?_)
  · replace v1p := v1p.resolve_right (by omega)
    obtain ⟨c0, q0, q0l, q0p, q0o, q0g⟩ := v1p.2.2.2
    have hfg7 := FCg.trans0 (FCg.refl (rgf_0_2 hI hf).1) q0g
    have q0b := q0l.2.1
    have q0c := q0l.2.2.1
    have q0d := q0l.2.2.2.1
    have q0e := q0l.2.2.2.2.1
    have q0f := q0l.2.2.2.2.2.1
    refine s_iconst (v := 0) kx_89_11 (by decide) ?_
    refine s_istore_n kx_89_12 km_89_3 rfl ?_
    have key10 : ∀ n11 : Nat, ∀ (x3_8 : Int), ∀ T9 : List cK, TT T9 → ∀ M9 : cM, Rng M9 → Fr fS_par M M9 → Fr gS_89_l13 M2 M9 → Gm T9 M9 → (0 ≤ x3_8) → (OFp f M M9) → (M9 f 2 + k ≤ M9 5 2) → ((M9 5 3 = 0 ∨ M9 5 3 = 5 ∨ M9 f 2 + k + 1 ≤ M9 5 2)) → (M f 2 + 1 ≤ M9 f 2) → (SumO M f M9 s n p x3_8 (fun c q => LvOk s n 5 o p c q ∧ ¬ 12 ≤ owAo s n q)) → (2147483647 - x3_8).toNat < n11 → cP k_P xs Ln (d + 7) 89 13 [(0, rf 4), (1, rf f), (2, (0, o)), (3, (0, x3_8))] [] (T9, M9) (qG T M fS_par 0 (fun v M1 => (v = 1 ∧ (M1 f 2 + k ≤ M1 5 2 ∧ (M1 5 3 = 0 ∨ M1 5 3 = 5 ∨ M1 f 2 + k + 1 ≤ M1 5 2)) ∧ (M f 2 + 1 ≤ M1 f 2 ∧ OFp f M M1) ∧ SumO M f M1 s n p 0 (fun c q => LvOk s n 5 o p c q ∧ owAo s n q = 0)) ∨ (v = 0 ∧ (M1 f 2 + k ≤ M1 5 2 ∧ OFp f M M1) ∧ SumX M1 (fun g => LvX s n 5 o p g)))) := by
      intro n11
      induction n11 with
      | zero => intro x3_8 T9 hT9 M9 hI9 hFm9 fl9 hG9 i12 i13 i14 i15 i16 i17 hm18; exact absurd hm18 (Nat.not_lt_zero _)
      | succ n11 ih19 =>
        intro x3_8 T9 hT9 M9 hI9 hFm9 fl9 hG9 i12 i13 i14 i15 i16 i17 hm18
        have tr20 := rg_5_2 hI9
        have tr21 := rg_5_3 hI9
        obtain ⟨c1, q1, q1l, q1p, q1o, q1g⟩ := i17
        have q1b := q1l.2.1; have q1c := q1l.2.2.1
        have q1d := q1l.2.2.2.1
        have q1e := q1l.2.2.2.2.1
        have q1f := q1l.2.2.2.2.2.1
        refine s_iload_n kx_89_13 rfl ?_
        refine s_sipush (v := 1600) kx_89_14 (by decide) ?_
        refine s_icmp_ge (t := 95) kx_89_17 (by decide) (fun hc22 => ?_) (fun hc22 => ?_)
        · exact absurd q1p (by omega)
        · refine s_aload_n kx_89_20 rfl ?_
          refine r_getR (k := 4) (f := 0) (k2 := 5) kx_89_21 kp_89_12 (tk_4 hT9) kf_7_0 (by decide) (rq_4_0 hI9) ?_
          refine s_bipush (v := 43) kx_89_24 (by decide) ?_
          refine s_callV2 (k := 5) (s1 := 2) (s2 := 0) (as := [(0, 43)]) (rest := []) kx_89_26 kp_89_22 (Or.inl rfl) rfl (tk_5 hT9) ki_23 kcl_23 rfl rfl (by decide) (f_23 (d := d + 6) (c := 43) hT9 hI9 q1l) (kF (fun v23 v23p => ?_))
          refine s_if_ne (t := 44) kx_89_29 (by decide) (fun hc24 => ?_) (fun hc24 => ?_)
          · replace v23p := v23p.resolve_right (by omega)
            have hao : owAo s n q1 = 10 ∨ owAo s n q1 = 11 := by first | exact Or.inl (ao_43 (by omega)) | exact Or.inr (ao_45 (by omega))
            refine s_aload_n kx_89_44 rfl ?_
            refine r_getR (k := 4) (f := 0) (k2 := 5) kx_89_45 kp_89_12 (tk_4 hT9) kf_7_0 (by decide) (rq_4_0 hI9) ?_
            refine s_bipush (v := 43) kx_89_48 (by decide) ?_
            refine s_callV2 (k := 5) (s1 := 2) (s2 := 0) (as := [(0, 43)]) (rest := []) kx_89_50 kp_89_22 (Or.inl rfl) rfl (tk_5 hT9) ki_23 kcl_23 rfl rfl (by decide) (f_23 (d := d + 6) (c := 43) hT9 hI9 q1l) (kF (fun v25 v25p => ?_))
            refine s_if_eq (t := 61) kx_89_53 (by decide) (fun hc26 => ?_) (fun hc26 => ?_)
            · replace v25p := v25p.resolve_left (by omega)
              refine s_bipush (v := (-8)) kx_89_61 (by decide) ?_
              refine s_istore kx_89_63 km_89_4 rfl ?_
              have hvs : (-8) = 3 - owAo s n q1 := by first | (have h43 := ao_43 (s := s) (n := n) (p := q1) (by omega); omega) | (have h45 := ao_45 (s := s) (n := n) (p := q1) (by omega); omega)
              refine s_aload_n kx_89_65 rfl ?_
              refine r_getR (k := 4) (f := 0) (k2 := 5) kx_89_66 kp_89_12 (tk_4 hT9) kf_7_0 (by decide) (rq_4_0 hI9) ?_
              refine s_callV2 (k := 5) (s1 := 1) (s2 := 0) (as := []) (rest := []) kx_89_69 kp_89_28 (Or.inl rfl) rfl (tk_5 hT9) ki_26 kcl_26 rfl rfl (by decide) (f_26 (d := d + 4) hT9 hI9 ((fl9 5 0 rfl).trans ((fr2 5 0 rfl).trans h50)) (LxA.nx q1l (by omega) (by omega))) (kV (fun M28 hI28 fr28 v27p => ?_))
              have hFm28 := hFm9.call fr28 rfl
              have hFl1328 := fl9.call fr28 rfl
              have tr29 := (fr28 f 2 (by rcases hf with rfl | rfl | rfl | rfl <;> rfl))
              have tr30 := rg_5_2 hI28
              have tr31 := rg_5_3 hI28
              have la32b := (v27p.1).2.1
              have la32c := (v27p.1).2.2.1
              have la32d := (v27p.1).2.2.2.1
              have la32e := (v27p.1).2.2.2.2.1
              have la32f := (v27p.1).2.2.2.2.2.1
              have la32z := owE_gt (s := s) (q1l).2.2.2.1 (by omega)
              refine s_aload_n kx_89_72 rfl ?_
              refine s_aload_n kx_89_73 rfl ?_
              refine s_iload_n kx_89_74 rfl ?_
              refine s_callV2 (k := 4) (s1 := 3) (s2 := 0) (as := [(0, o), rf f]) (rest := []) kx_89_75 kp_89_18 (Or.inl rfl) rfl (tk_4 hT9) ki_90 kcl_90 rfl rfl (by decide) (f_90 (d := d) (o := o) (k := k + 1) hT9 hI28 ((fr28 5 0 rfl).trans ((fl9 5 0 rfl).trans ((fr2 5 0 rfl).trans h50))) hf (Gm.fr hG9 fr28 rfl) v27p.1 (fun h => (hL h).deep (by omega)) (by omega) (by omega) (by omega)) (kG (fun v33 T34 M34 hT34 hI34 fr34 hG34 v33p => ?_))
              have hFm34 := hFm28.call fr34 rfl
              have hFl1334 := hFl1328.call fr34 rfl
              have tr35 := rg_5_2 hI34
              have tr36 := rg_5_3 hI34
              have hof37 := OFp.trans (OFp.fr i13 fr28 rfl) (v33p.elim (fun z => z.2.2.1.2) (fun z => z.2.1.2))
              refine s_if_ne (t := 83) kx_89_78 (by decide) (fun hc38 => ?_) (fun hc38 => ?_)
              · replace v33p := v33p.resolve_right (by omega)
                obtain ⟨c2, q2, q2l, q2p, q2o, q2g⟩ := v33p.2.2.2
                have hfg39 := FCg.trans (FCg.fr q1g hf fr28 rfl) q2g
                have q2b := q2l.2.1
                have q2c := q2l.2.2.1
                have q2d := q2l.2.2.2.1
                have q2e := q2l.2.2.2.2.1
                have q2f := q2l.2.2.2.2.2.1
                refine s_aload_n kx_89_83 rfl ?_
                refine s_iload kx_89_84 rfl ?_
                refine s_callV2 (k := f) (s1 := 2) (s2 := 0) (as := [(0, (-8))]) (rest := []) kx_89_86 kp_89_31 (Or.inl rfl) rfl (tkf_0 hT34 hf) ki_10 kcl_10 rfl rfl (by decide) (f_10 (d := d + 4) (step := (-8)) hT34 hI34 hf hG34 (by omega)) (kGV (fun T41 M41 hT41 hI41 fr41 hG41 v40p => ?_))
                have hFm41 := hFm34.call fr41 rfl
                have hFl1341 := hFl1334.call fr41 rfl
                have tr42 := (fr41 5 2 rfl)
                have tr43 := (fr41 5 3 rfl)
                have tr44 := rg_5_2 hI41
                have tr45 := rg_5_3 hI41
                have hfg47 := FCg.trans hfg39 v40p.2.2
                have hof46 := OFp.trans hof37 v40p.2.1
                refine r_iinc kx_89_89 rfl km_89_3 (by decide) ⟨by omega, by omega⟩ rfl ?_
                refine s_goto (t := 13) kx_89_92 (by decide) ?_
                exact cP.wk (lS1 rfl (lS1 rfl (lS1 rfl (lS1 rfl lS0)))) (ih19 (x3_8 + 1) T41 hT41 M41 hI41 hFm41 hFl1341 hG41 (by omega) hof46 (by omega) (by omega) (by omega) ⟨_, _, (LxA.fr q2l fr41 rfl), by omega, ⟨sm_step q1o.1 hao q2o.1, q2o.2⟩, FCg.op hfg47 (by omega)⟩ (by omega))
              · replace v33p := v33p.resolve_left (by omega)
                have hx48 : SumX M34 (fun g => LvX s n 5 o p g) := (v33p.2.2.mono (fun g z => sm_xst q1o.1 hao z))
                refine s_iconst (v := 0) kx_89_81 (by decide) ?_
                exact s_iret kx_89_82 (Or.inr ⟨kq_89, by omega⟩) ⟨_, _, _, rfl, rfl, hT34, hI34, hFm34, hG34, (Or.inr ⟨rfl, ⟨by omega, hof37⟩, hx48⟩)⟩
            · replace v25p := v25p.resolve_right (by omega)
              refine s_bipush (v := (-7)) kx_89_56 (by decide) ?_
              refine s_goto (t := 63) kx_89_58 (by decide) ?_
              refine s_istore kx_89_63 km_89_4 rfl ?_
              have hvs : (-7) = 3 - owAo s n q1 := by first | (have h43 := ao_43 (s := s) (n := n) (p := q1) (by omega); omega) | (have h45 := ao_45 (s := s) (n := n) (p := q1) (by omega); omega)
              refine s_aload_n kx_89_65 rfl ?_
              refine r_getR (k := 4) (f := 0) (k2 := 5) kx_89_66 kp_89_12 (tk_4 hT9) kf_7_0 (by decide) (rq_4_0 hI9) ?_
              refine s_callV2 (k := 5) (s1 := 1) (s2 := 0) (as := []) (rest := []) kx_89_69 kp_89_28 (Or.inl rfl) rfl (tk_5 hT9) ki_26 kcl_26 rfl rfl (by decide) (f_26 (d := d + 4) hT9 hI9 ((fl9 5 0 rfl).trans ((fr2 5 0 rfl).trans h50)) (LxA.nx q1l (by omega) (by omega))) (kV (fun M50 hI50 fr50 v49p => ?_))
              have hFm50 := hFm9.call fr50 rfl
              have hFl1350 := fl9.call fr50 rfl
              have tr51 := (fr50 f 2 (by rcases hf with rfl | rfl | rfl | rfl <;> rfl))
              have tr52 := rg_5_2 hI50
              have tr53 := rg_5_3 hI50
              have la54b := (v49p.1).2.1
              have la54c := (v49p.1).2.2.1
              have la54d := (v49p.1).2.2.2.1
              have la54e := (v49p.1).2.2.2.2.1
              have la54f := (v49p.1).2.2.2.2.2.1
              have la54z := owE_gt (s := s) (q1l).2.2.2.1 (by omega)
              refine s_aload_n kx_89_72 rfl ?_
              refine s_aload_n kx_89_73 rfl ?_
              refine s_iload_n kx_89_74 rfl ?_
              refine s_callV2 (k := 4) (s1 := 3) (s2 := 0) (as := [(0, o), rf f]) (rest := []) kx_89_75 kp_89_18 (Or.inl rfl) rfl (tk_4 hT9) ki_90 kcl_90 rfl rfl (by decide) (f_90 (d := d) (o := o) (k := k + 1) hT9 hI50 ((fr50 5 0 rfl).trans ((fl9 5 0 rfl).trans ((fr2 5 0 rfl).trans h50))) hf (Gm.fr hG9 fr50 rfl) v49p.1 (fun h => (hL h).deep (by omega)) (by omega) (by omega) (by omega)) (kG (fun v55 T56 M56 hT56 hI56 fr56 hG56 v55p => ?_))
              have hFm56 := hFm50.call fr56 rfl
              have hFl1356 := hFl1350.call fr56 rfl
              have tr57 := rg_5_2 hI56
              have tr58 := rg_5_3 hI56
              have hof59 := OFp.trans (OFp.fr i13 fr50 rfl) (v55p.elim (fun z => z.2.2.1.2) (fun z => z.2.1.2))
              refine s_if_ne (t := 83) kx_89_78 (by decide) (fun hc60 => ?_) (fun hc60 => ?_)
              · replace v55p := v55p.resolve_right (by omega)
                obtain ⟨c2, q2, q2l, q2p, q2o, q2g⟩ := v55p.2.2.2
                have hfg61 := FCg.trans (FCg.fr q1g hf fr50 rfl) q2g
                have q2b := q2l.2.1
                have q2c := q2l.2.2.1
                have q2d := q2l.2.2.2.1
                have q2e := q2l.2.2.2.2.1
                have q2f := q2l.2.2.2.2.2.1
                refine s_aload_n kx_89_83 rfl ?_
                refine s_iload kx_89_84 rfl ?_
                refine s_callV2 (k := f) (s1 := 2) (s2 := 0) (as := [(0, (-7))]) (rest := []) kx_89_86 kp_89_31 (Or.inl rfl) rfl (tkf_0 hT56 hf) ki_10 kcl_10 rfl rfl (by decide) (f_10 (d := d + 4) (step := (-7)) hT56 hI56 hf hG56 (by omega)) (kGV (fun T63 M63 hT63 hI63 fr63 hG63 v62p => ?_))
                have hFm63 := hFm56.call fr63 rfl
                have hFl1363 := hFl1356.call fr63 rfl
                have tr64 := (fr63 5 2 rfl)
                have tr65 := (fr63 5 3 rfl)
                have tr66 := rg_5_2 hI63
                have tr67 := rg_5_3 hI63
                have hfg69 := FCg.trans hfg61 v62p.2.2
                have hof68 := OFp.trans hof59 v62p.2.1
                refine r_iinc kx_89_89 rfl km_89_3 (by decide) ⟨by omega, by omega⟩ rfl ?_
                refine s_goto (t := 13) kx_89_92 (by decide) ?_
                exact cP.wk (lS1 rfl (lS1 rfl (lS1 rfl (lS1 rfl lS0)))) (ih19 (x3_8 + 1) T63 hT63 M63 hI63 hFm63 hFl1363 hG63 (by omega) hof68 (by omega) (by omega) (by omega) ⟨_, _, (LxA.fr q2l fr63 rfl), by omega, ⟨sm_step q1o.1 hao q2o.1, q2o.2⟩, FCg.op hfg69 (by omega)⟩ (by omega))
              · replace v55p := v55p.resolve_left (by omega)
                have hx70 : SumX M56 (fun g => LvX s n 5 o p g) := (v55p.2.2.mono (fun g z => sm_xst q1o.1 hao z))
                refine s_iconst (v := 0) kx_89_81 (by decide) ?_
                exact s_iret kx_89_82 (Or.inr ⟨kq_89, by omega⟩) ⟨_, _, _, rfl, rfl, hT56, hI56, hFm56, hG56, (Or.inr ⟨rfl, ⟨by omega, hof59⟩, hx70⟩)⟩
          · replace v23p := v23p.resolve_left (by omega)
            refine s_aload_n kx_89_32 rfl ?_
            refine r_getR (k := 4) (f := 0) (k2 := 5) kx_89_33 kp_89_12 (tk_4 hT9) kf_7_0 (by decide) (rq_4_0 hI9) ?_
            refine s_bipush (v := 45) kx_89_36 (by decide) ?_
            refine s_callV2 (k := 5) (s1 := 2) (s2 := 0) (as := [(0, 45)]) (rest := []) kx_89_38 kp_89_22 (Or.inl rfl) rfl (tk_5 hT9) ki_23 kcl_23 rfl rfl (by decide) (f_23 (d := d + 6) (c := 45) hT9 hI9 q1l) (kF (fun v71 v71p => ?_))
            refine s_if_eq (t := 95) kx_89_41 (by decide) (fun hc72 => ?_) (fun hc72 => ?_)
            · replace v71p := v71p.resolve_left (by omega)
              have ho73 : SumC M9 s n p 0 (fun c q => LvOk s n 5 o p c q ∧ owAo s n q = 0) _ := ⟨q1, q1l, by omega, q1o.1, ao_n5 q1o.2 (by omega) (by omega)⟩
              refine s_iconst (v := 1) kx_89_95 (by decide) ?_
              exact s_iret kx_89_96 (Or.inr ⟨kq_89, by omega⟩) ⟨_, _, _, rfl, rfl, hT9, hI9, hFm9, hG9, (Or.inl ⟨rfl, ⟨by omega, by omega⟩, ⟨by omega, i13⟩, (SumC.o ho73 q1g)⟩)⟩
            · replace v71p := v71p.resolve_right (by omega)
              have hao : owAo s n q1 = 10 ∨ owAo s n q1 = 11 := by first | exact Or.inl (ao_43 (by omega)) | exact Or.inr (ao_45 (by omega))
              refine s_aload_n kx_89_44 rfl ?_
              refine r_getR (k := 4) (f := 0) (k2 := 5) kx_89_45 kp_89_12 (tk_4 hT9) kf_7_0 (by decide) (rq_4_0 hI9) ?_
              refine s_bipush (v := 43) kx_89_48 (by decide) ?_
              refine s_callV2 (k := 5) (s1 := 2) (s2 := 0) (as := [(0, 43)]) (rest := []) kx_89_50 kp_89_22 (Or.inl rfl) rfl (tk_5 hT9) ki_23 kcl_23 rfl rfl (by decide) (f_23 (d := d + 6) (c := 43) hT9 hI9 q1l) (kF (fun v74 v74p => ?_))
              refine s_if_eq (t := 61) kx_89_53 (by decide) (fun hc75 => ?_) (fun hc75 => ?_)
              · replace v74p := v74p.resolve_left (by omega)
                refine s_bipush (v := (-8)) kx_89_61 (by decide) ?_
                refine s_istore kx_89_63 km_89_4 rfl ?_
                have hvs : (-8) = 3 - owAo s n q1 := by first | (have h43 := ao_43 (s := s) (n := n) (p := q1) (by omega); omega) | (have h45 := ao_45 (s := s) (n := n) (p := q1) (by omega); omega)
                refine s_aload_n kx_89_65 rfl ?_
                refine r_getR (k := 4) (f := 0) (k2 := 5) kx_89_66 kp_89_12 (tk_4 hT9) kf_7_0 (by decide) (rq_4_0 hI9) ?_
                refine s_callV2 (k := 5) (s1 := 1) (s2 := 0) (as := []) (rest := []) kx_89_69 kp_89_28 (Or.inl rfl) rfl (tk_5 hT9) ki_26 kcl_26 rfl rfl (by decide) (f_26 (d := d + 4) hT9 hI9 ((fl9 5 0 rfl).trans ((fr2 5 0 rfl).trans h50)) (LxA.nx q1l (by omega) (by omega))) (kV (fun M77 hI77 fr77 v76p => ?_))
                have hFm77 := hFm9.call fr77 rfl
                have hFl1377 := fl9.call fr77 rfl
                have tr78 := (fr77 f 2 (by rcases hf with rfl | rfl | rfl | rfl <;> rfl))
                have tr79 := rg_5_2 hI77
                have tr80 := rg_5_3 hI77
                have la81b := (v76p.1).2.1
                have la81c := (v76p.1).2.2.1
                have la81d := (v76p.1).2.2.2.1
                have la81e := (v76p.1).2.2.2.2.1
                have la81f := (v76p.1).2.2.2.2.2.1
                have la81z := owE_gt (s := s) (q1l).2.2.2.1 (by omega)
                refine s_aload_n kx_89_72 rfl ?_
                refine s_aload_n kx_89_73 rfl ?_
                refine s_iload_n kx_89_74 rfl ?_
                refine s_callV2 (k := 4) (s1 := 3) (s2 := 0) (as := [(0, o), rf f]) (rest := []) kx_89_75 kp_89_18 (Or.inl rfl) rfl (tk_4 hT9) ki_90 kcl_90 rfl rfl (by decide) (f_90 (d := d) (o := o) (k := k + 1) hT9 hI77 ((fr77 5 0 rfl).trans ((fl9 5 0 rfl).trans ((fr2 5 0 rfl).trans h50))) hf (Gm.fr hG9 fr77 rfl) v76p.1 (fun h => (hL h).deep (by omega)) (by omega) (by omega) (by omega)) (kG (fun v82 T83 M83 hT83 hI83 fr83 hG83 v82p => ?_))
                have hFm83 := hFm77.call fr83 rfl
                have hFl1383 := hFl1377.call fr83 rfl
                have tr84 := rg_5_2 hI83
                have tr85 := rg_5_3 hI83
                have hof86 := OFp.trans (OFp.fr i13 fr77 rfl) (v82p.elim (fun z => z.2.2.1.2) (fun z => z.2.1.2))
                refine s_if_ne (t := 83) kx_89_78 (by decide) (fun hc87 => ?_) (fun hc87 => ?_)
                · replace v82p := v82p.resolve_right (by omega)
                  obtain ⟨c2, q2, q2l, q2p, q2o, q2g⟩ := v82p.2.2.2
                  have hfg88 := FCg.trans (FCg.fr q1g hf fr77 rfl) q2g
                  have q2b := q2l.2.1
                  have q2c := q2l.2.2.1
                  have q2d := q2l.2.2.2.1
                  have q2e := q2l.2.2.2.2.1
                  have q2f := q2l.2.2.2.2.2.1
                  refine s_aload_n kx_89_83 rfl ?_
                  refine s_iload kx_89_84 rfl ?_
                  refine s_callV2 (k := f) (s1 := 2) (s2 := 0) (as := [(0, (-8))]) (rest := []) kx_89_86 kp_89_31 (Or.inl rfl) rfl (tkf_0 hT83 hf) ki_10 kcl_10 rfl rfl (by decide) (f_10 (d := d + 4) (step := (-8)) hT83 hI83 hf hG83 (by omega)) (kGV (fun T90 M90 hT90 hI90 fr90 hG90 v89p => ?_))
                  have hFm90 := hFm83.call fr90 rfl
                  have hFl1390 := hFl1383.call fr90 rfl
                  have tr91 := (fr90 5 2 rfl)
                  have tr92 := (fr90 5 3 rfl)
                  have tr93 := rg_5_2 hI90
                  have tr94 := rg_5_3 hI90
                  have hfg96 := FCg.trans hfg88 v89p.2.2
                  have hof95 := OFp.trans hof86 v89p.2.1
                  refine r_iinc kx_89_89 rfl km_89_3 (by decide) ⟨by omega, by omega⟩ rfl ?_
                  refine s_goto (t := 13) kx_89_92 (by decide) ?_
                  exact cP.wk (lS1 rfl (lS1 rfl (lS1 rfl (lS1 rfl lS0)))) (ih19 (x3_8 + 1) T90 hT90 M90 hI90 hFm90 hFl1390 hG90 (by omega) hof95 (by omega) (by omega) (by omega) ⟨_, _, (LxA.fr q2l fr90 rfl), by omega, ⟨sm_step q1o.1 hao q2o.1, q2o.2⟩, FCg.op hfg96 (by omega)⟩ (by omega))
                · replace v82p := v82p.resolve_left (by omega)
                  have hx97 : SumX M83 (fun g => LvX s n 5 o p g) := (v82p.2.2.mono (fun g z => sm_xst q1o.1 hao z))
                  refine s_iconst (v := 0) kx_89_81 (by decide) ?_
                  exact s_iret kx_89_82 (Or.inr ⟨kq_89, by omega⟩) ⟨_, _, _, rfl, rfl, hT83, hI83, hFm83, hG83, (Or.inr ⟨rfl, ⟨by omega, hof86⟩, hx97⟩)⟩
              · replace v74p := v74p.resolve_right (by omega)
                refine s_bipush (v := (-7)) kx_89_56 (by decide) ?_
                refine s_goto (t := 63) kx_89_58 (by decide) ?_
                refine s_istore kx_89_63 km_89_4 rfl ?_
                have hvs : (-7) = 3 - owAo s n q1 := by first | (have h43 := ao_43 (s := s) (n := n) (p := q1) (by omega); omega) | (have h45 := ao_45 (s := s) (n := n) (p := q1) (by omega); omega)
                refine s_aload_n kx_89_65 rfl ?_
                refine r_getR (k := 4) (f := 0) (k2 := 5) kx_89_66 kp_89_12 (tk_4 hT9) kf_7_0 (by decide) (rq_4_0 hI9) ?_
                refine s_callV2 (k := 5) (s1 := 1) (s2 := 0) (as := []) (rest := []) kx_89_69 kp_89_28 (Or.inl rfl) rfl (tk_5 hT9) ki_26 kcl_26 rfl rfl (by decide) (f_26 (d := d + 4) hT9 hI9 ((fl9 5 0 rfl).trans ((fr2 5 0 rfl).trans h50)) (LxA.nx q1l (by omega) (by omega))) (kV (fun M99 hI99 fr99 v98p => ?_))
                have hFm99 := hFm9.call fr99 rfl
                have hFl1399 := fl9.call fr99 rfl
                have tr100 := (fr99 f 2 (by rcases hf with rfl | rfl | rfl | rfl <;> rfl))
                have tr101 := rg_5_2 hI99
                have tr102 := rg_5_3 hI99
                have la103b := (v98p.1).2.1
                have la103c := (v98p.1).2.2.1
                have la103d := (v98p.1).2.2.2.1
                have la103e := (v98p.1).2.2.2.2.1
                have la103f := (v98p.1).2.2.2.2.2.1
                have la103z := owE_gt (s := s) (q1l).2.2.2.1 (by omega)
                refine s_aload_n kx_89_72 rfl ?_
                refine s_aload_n kx_89_73 rfl ?_
                refine s_iload_n kx_89_74 rfl ?_
                refine s_callV2 (k := 4) (s1 := 3) (s2 := 0) (as := [(0, o), rf f]) (rest := []) kx_89_75 kp_89_18 (Or.inl rfl) rfl (tk_4 hT9) ki_90 kcl_90 rfl rfl (by decide) (f_90 (d := d) (o := o) (k := k + 1) hT9 hI99 ((fr99 5 0 rfl).trans ((fl9 5 0 rfl).trans ((fr2 5 0 rfl).trans h50))) hf (Gm.fr hG9 fr99 rfl) v98p.1 (fun h => (hL h).deep (by omega)) (by omega) (by omega) (by omega)) (kG (fun v104 T105 M105 hT105 hI105 fr105 hG105 v104p => ?_))
                have hFm105 := hFm99.call fr105 rfl
                have hFl13105 := hFl1399.call fr105 rfl
                have tr106 := rg_5_2 hI105
                have tr107 := rg_5_3 hI105
                have hof108 := OFp.trans (OFp.fr i13 fr99 rfl) (v104p.elim (fun z => z.2.2.1.2) (fun z => z.2.1.2))
                refine s_if_ne (t := 83) kx_89_78 (by decide) (fun hc109 => ?_) (fun hc109 => ?_)
                · replace v104p := v104p.resolve_right (by omega)
                  obtain ⟨c2, q2, q2l, q2p, q2o, q2g⟩ := v104p.2.2.2
                  have hfg110 := FCg.trans (FCg.fr q1g hf fr99 rfl) q2g
                  have q2b := q2l.2.1
                  have q2c := q2l.2.2.1
                  have q2d := q2l.2.2.2.1
                  have q2e := q2l.2.2.2.2.1
                  have q2f := q2l.2.2.2.2.2.1
                  refine s_aload_n kx_89_83 rfl ?_
                  refine s_iload kx_89_84 rfl ?_
                  refine s_callV2 (k := f) (s1 := 2) (s2 := 0) (as := [(0, (-7))]) (rest := []) kx_89_86 kp_89_31 (Or.inl rfl) rfl (tkf_0 hT105 hf) ki_10 kcl_10 rfl rfl (by decide) (f_10 (d := d + 4) (step := (-7)) hT105 hI105 hf hG105 (by omega)) (kGV (fun T112 M112 hT112 hI112 fr112 hG112 v111p => ?_))
                  have hFm112 := hFm105.call fr112 rfl
                  have hFl13112 := hFl13105.call fr112 rfl
                  have tr113 := (fr112 5 2 rfl)
                  have tr114 := (fr112 5 3 rfl)
                  have tr115 := rg_5_2 hI112
                  have tr116 := rg_5_3 hI112
                  have hfg118 := FCg.trans hfg110 v111p.2.2
                  have hof117 := OFp.trans hof108 v111p.2.1
                  refine r_iinc kx_89_89 rfl km_89_3 (by decide) ⟨by omega, by omega⟩ rfl ?_
                  refine s_goto (t := 13) kx_89_92 (by decide) ?_
                  exact cP.wk (lS1 rfl (lS1 rfl (lS1 rfl (lS1 rfl lS0)))) (ih19 (x3_8 + 1) T112 hT112 M112 hI112 hFm112 hFl13112 hG112 (by omega) hof117 (by omega) (by omega) (by omega) ⟨_, _, (LxA.fr q2l fr112 rfl), by omega, ⟨sm_step q1o.1 hao q2o.1, q2o.2⟩, FCg.op hfg118 (by omega)⟩ (by omega))
                · replace v104p := v104p.resolve_left (by omega)
                  have hx119 : SumX M105 (fun g => LvX s n 5 o p g) := (v104p.2.2.mono (fun g z => sm_xst q1o.1 hao z))
                  refine s_iconst (v := 0) kx_89_81 (by decide) ?_
                  exact s_iret kx_89_82 (Or.inr ⟨kq_89, by omega⟩) ⟨_, _, _, rfl, rfl, hT105, hI105, hFm105, hG105, (Or.inr ⟨rfl, ⟨by omega, hof108⟩, hx119⟩)⟩
    exact cP.wk (lS1 rfl (lS1 rfl (lS1 rfl (lS1 rfl lS0)))) (key10 _ 0 T2 hT2 M2 hI2 hFm2 Fr.refl hG2 (by omega) hof5 (by omega) (by omega) (by omega) ⟨_, _, q0l, by omega, ⟨sm_base q0o.1, q0o.2⟩, hfg7⟩ (Nat.lt_succ_self _))
  · replace v1p := v1p.resolve_left (by omega)
    have hx120 : SumX M2 (fun g => LvX s n 5 o p g) := (v1p.2.2.mono (fun g z => sm_xb z))
    refine s_iconst (v := 0) kx_89_9 (by decide) ?_
    exact s_iret kx_89_10 (Or.inr ⟨kq_89, by omega⟩) ⟨_, _, _, rfl, rfl, hT2, hI2, hFm2, hG2, (Or.inr ⟨rfl, ⟨by omega, hof5⟩, hx120⟩)⟩
