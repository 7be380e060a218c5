def gS_90_l13 : List (Nat × Nat) := [(19, 1), (19, 2), (21, 99999), (22, 1), (22, 2), (24, 99999), (36, 1), (36, 2), (38, 99999), (39, 1), (39, 2), (41, 99999), (5, 2), (5, 3), (5, 4), (5, 5), (5, 6), (5, 7)]
theorem f_90 {xs : Nat → Int} {Ln d : Nat} {T : List cK} {M : cM} (hT : TT T) (hI : Rng M) (h50 : M 5 0 = ((2 : Nat) : Int)) {f : Nat} (hf : fF f) (hG : Gm T M) {o k : Int} {s : Nat → Int} {n p : Int} (hA : LxA M s n p) (hL : o < 7 → Lf xs Ln d (o + 1)) (p0 : 0 ≤ o ∧ o ≤ 7) (p1 : 0 ≤ k) (p2 : M f 2 + k ≤ M 5 2 ∧ (M 5 3 = 0 ∨ M 5 3 = 5 ∨ M f 2 + k + 1 ≤ M 5 2)) : cC k_P xs Ln (d + 6) 90 [rf 4, rf f, (0, o)] (T, M) (qG T M fS_par 0 (fun v M1 => (v = 1 ∧ (M1 f 2 + k ≤ M1 5 2 ∧ (M1 5 3 = 0 ∨ M1 5 3 = 5 ∨ M1 f 2 + k + 1 ≤ M1 5 2)) ∧ (M f 2 + 1 ≤ M1 f 2 ∧ OFp f M M1) ∧ SumO M1 s n p 0 (fun c q => LvOk s n 6 o p c q ∧ ¬ 12 ≤ owAo s n q)) ∨ (v = 0 ∧ (M1 f 2 + k ≤ M1 5 2 ∧ OFp f M M1) ∧ SumX M1 (fun g => LvX s n 6 o p g)))) := by
  show cP k_P xs Ln (d + 6) 90 0 [(0, rf 4), (1, rf f), (2, (0, o))] [] (T, M) _
  have hFm : Fr fS_par M M := Fr.refl
  have h51 := hA.2.1
  have h0 := hA.2.2.1
  have hpn := hA.2.2.2.1
  have h53 := hA.2.2.2.2.1
  have h55 := hA.2.2.2.2.2.1
  have h51r := rg_5_1 hI
  have h52 := rg_5_2 hI
  have h53r := rg_5_3 hI
  refine s_aload_n kx_90_0 rfl ?_
  refine s_aload_n kx_90_1 rfl ?_
  refine s_iload_n kx_90_2 rfl ?_
  refine s_callV2 (k := 4) (s1 := 3) (s2 := 0) (as := [(0, o), rf f]) (rest := []) kx_90_3 kp_90_35 (Or.inl rfl) rfl (tk_4 hT) ki_92 kcl_92 rfl rfl (by decide) (f_92 (d := d) (o := o) (k := k) hT hI h50 hf hG hA (fun h => (hL h).deep (by omega)) (by omega) (by omega) (by omega)) (kG (fun v1 T2 M2 hT2 hI2 fr2 hG2 v1p => ?_))
  have hFm2 := hFm.call fr2 rfl
  have tr3 := rg_5_2 hI2
  have tr4 := rg_5_3 hI2
  have hof5 := OFp.trans (OFp.refl (M := M)) (v1p.elim (fun z => z.2.2.1.2) (fun z => z.2.1.2))
  refine s_if_ne (t := 11) kx_90_6 (by decide) (fun hc6 => ?_) (fun hc6 => ?_)
  · replace v1p := v1p.resolve_right (by omega)
    obtain ⟨c0, q0, q0l, q0p, q0o⟩ := v1p.2.2.2
    have q0b := q0l.2.1
    have q0c := q0l.2.2.1
    have q0d := q0l.2.2.2.1
    have q0e := q0l.2.2.2.2.1
    have q0f := q0l.2.2.2.2.2.1
    refine s_iconst (v := 0) kx_90_11 (by decide) ?_
    refine s_istore_n kx_90_12 km_90_3 rfl ?_
    have key9 : ∀ n10 : Nat, ∀ (x3_7 : Int), ∀ T8 : List cK, TT T8 → ∀ M8 : cM, Rng M8 → Fr fS_par M M8 → Fr gS_90_l13 M2 M8 → Gm T8 M8 → (0 ≤ x3_7) → (OFp f M M8) → (M8 f 2 + k ≤ M8 5 2) → ((M8 5 3 = 0 ∨ M8 5 3 = 5 ∨ M8 f 2 + k + 1 ≤ M8 5 2)) → (M f 2 + 1 ≤ M8 f 2) → (SumO M8 s n p x3_7 (fun c q => LvOk s n 6 o p c q)) → (2147483647 - x3_7).toNat < n10 → cP k_P xs Ln (d + 6) 90 13 [(0, rf 4), (1, rf f), (2, (0, o)), (3, (0, x3_7))] [] (T8, M8) (qG T M fS_par 0 (fun v M1 => (v = 1 ∧ (M1 f 2 + k ≤ M1 5 2 ∧ (M1 5 3 = 0 ∨ M1 5 3 = 5 ∨ M1 f 2 + k + 1 ≤ M1 5 2)) ∧ (M f 2 + 1 ≤ M1 f 2 ∧ OFp f M M1) ∧ SumO M1 s n p 0 (fun c q => LvOk s n 6 o p c q ∧ ¬ 12 ≤ owAo s n q)) ∨ (v = 0 ∧ (M1 f 2 + k ≤ M1 5 2 ∧ OFp f M M1) ∧ SumX M1 (fun g => LvX s n 6 o p g)))) := by
      intro n10
      induction n10 with
      | zero => intro x3_7 T8 hT8 M8 hI8 hFm8 fl8 hG8 i11 i12 i13 i14 i15 i16 hm17; exact absurd hm17 (Nat.not_lt_zero _)
      | succ n10 ih18 =>
        intro x3_7 T8 hT8 M8 hI8 hFm8 fl8 hG8 i11 i12 i13 i14 i15 i16 hm17
        have tr19 := rg_5_2 hI8
        have tr20 := rg_5_3 hI8
        obtain ⟨c1, q1, q1l, q1p, q1o⟩ := i16
        have q1b := q1l.2.1; have q1c := q1l.2.2.1
        have q1d := q1l.2.2.2.1
        have q1e := q1l.2.2.2.2.1
        have q1f := q1l.2.2.2.2.2.1
        refine s_iload_n kx_90_13 rfl ?_
        refine s_sipush (v := 1600) kx_90_14 (by decide) ?_
        refine s_icmp_ge (t := 63) kx_90_17 (by decide) (fun hc21 => ?_) (fun hc21 => ?_)
        · exact absurd q1p (by omega)
        · refine s_aload_n kx_90_20 rfl ?_
          refine s_callV2 (k := 4) (s1 := 1) (s2 := 0) (as := []) (rest := []) kx_90_21 kp_90_38 (Or.inl rfl) rfl (tk_4 hT8) ki_91 kcl_91 rfl rfl (by decide) (f_91 (d := d + 4) hT8 hI8 q1l) (kF (fun v22 v22p => ?_))
          refine s_if_eq (t := 63) kx_90_24 (by decide) (fun hc23 => ?_) (fun hc23 => ?_)
          · replace v22p := v22p.resolve_left (by omega)
            have ho24 : SumO M8 s n p 0 (fun c q => LvOk s n 6 o p c q ∧ ¬ 12 ≤ owAo s n q) := ⟨c1, q1, q1l, by omega, q1o, by omega⟩
            refine s_iconst (v := 1) kx_90_63 (by decide) ?_
            exact s_iret kx_90_64 (Or.inr ⟨kq_90, by omega⟩) ⟨_, _, _, rfl, rfl, hT8, hI8, hFm8, hG8, (Or.inl ⟨rfl, ⟨by omega, by omega⟩, ⟨by omega, i12⟩, ho24⟩)⟩
          · replace v22p := v22p.resolve_right (by omega)
            refine s_aload_n kx_90_27 rfl ?_
            refine s_callV2 (k := 4) (s1 := 1) (s2 := 0) (as := []) (rest := []) kx_90_28 kp_90_38 (Or.inl rfl) rfl (tk_4 hT8) ki_91 kcl_91 rfl rfl (by decide) (f_91 (d := d + 4) hT8 hI8 q1l) (kF (fun v25 v25p => ?_))
            have hst := v25p.resolve_right (by omega)
            refine s_istore kx_90_31 km_90_4 rfl ?_
            refine s_aload_n kx_90_33 rfl ?_
            refine r_getR (k := 4) (f := 0) (k2 := 5) kx_90_34 kp_90_12 (tk_4 hT8) kf_7_0 (by decide) (rq_4_0 hI8) ?_
            refine s_callV2 (k := 5) (s1 := 1) (s2 := 0) (as := []) (rest := []) kx_90_37 kp_90_28 (Or.inl rfl) rfl (tk_5 hT8) ki_26 kcl_26 rfl rfl (by decide) (f_26 (d := d + 3) hT8 hI8 ((fl8 5 0 rfl).trans ((fr2 5 0 rfl).trans h50)) (LxA.nx q1l (by omega) (by omega))) (kV (fun M27 hI27 fr27 v26p => ?_))
            have hFm27 := hFm8.call fr27 rfl
            have hFl1327 := fl8.call fr27 rfl
            have tr28 := (fr27 f 2 (by rcases hf with rfl | rfl | rfl | rfl <;> rfl))
            have tr29 := rg_5_2 hI27
            have tr30 := rg_5_3 hI27
            have la31b := (v26p.1).2.1
            have la31c := (v26p.1).2.2.1
            have la31d := (v26p.1).2.2.2.1
            have la31e := (v26p.1).2.2.2.2.1
            have la31f := (v26p.1).2.2.2.2.2.1
            have la31z := owE_gt (s := s) (q1l).2.2.2.1 (by omega)
            refine s_aload_n kx_90_40 rfl ?_
            refine s_aload_n kx_90_41 rfl ?_
            refine s_iload_n kx_90_42 rfl ?_
            refine s_callV2 (k := 4) (s1 := 3) (s2 := 0) (as := [(0, o), rf f]) (rest := []) kx_90_43 kp_90_35 (Or.inl rfl) rfl (tk_4 hT8) ki_92 kcl_92 rfl rfl (by decide) (f_92 (d := d) (o := o) (k := k + 1) hT8 hI27 ((fr27 5 0 rfl).trans ((fl8 5 0 rfl).trans ((fr2 5 0 rfl).trans h50))) hf (Gm.fr hG8 fr27 rfl) v26p.1 (fun h => (hL h).deep (by omega)) (by omega) (by omega) (by omega)) (kG (fun v32 T33 M33 hT33 hI33 fr33 hG33 v32p => ?_))
            have hFm33 := hFm27.call fr33 rfl
            have hFl1333 := hFl1327.call fr33 rfl
            have tr34 := rg_5_2 hI33
            have tr35 := rg_5_3 hI33
            have hof36 := OFp.trans (OFp.fr i12 fr27 rfl) (v32p.elim (fun z => z.2.2.1.2) (fun z => z.2.1.2))
            refine s_if_ne (t := 51) kx_90_46 (by decide) (fun hc37 => ?_) (fun hc37 => ?_)
            · replace v32p := v32p.resolve_right (by omega)
              obtain ⟨c2, q2, q2l, q2p, q2o⟩ := v32p.2.2.2
              have q2b := q2l.2.1
              have q2c := q2l.2.2.1
              have q2d := q2l.2.2.2.1
              have q2e := q2l.2.2.2.2.1
              have q2f := q2l.2.2.2.2.2.1
              refine s_aload_n kx_90_51 rfl ?_
              refine s_iload kx_90_52 rfl ?_
              refine s_callV2 (k := f) (s1 := 2) (s2 := 0) (as := [(0, v25)]) (rest := []) kx_90_54 kp_90_31 (Or.inl rfl) rfl (tkf_0 hT33 hf) ki_10 kcl_10 rfl rfl (by decide) (f_10 (d := d + 3) (step := v25) hT33 hI33 hf hG33 (by omega)) (kGV (fun T39 M39 hT39 hI39 fr39 hG39 v38p => ?_))
              have hFm39 := hFm33.call fr39 rfl
              have hFl1339 := hFl1333.call fr39 rfl
              have tr40 := (fr39 5 2 rfl)
              have tr41 := (fr39 5 3 rfl)
              have tr42 := rg_5_2 hI39
              have tr43 := rg_5_3 hI39
              have hof44 := OFp.trans hof36 v38p.2
              refine r_iinc kx_90_57 rfl km_90_3 (by decide) ⟨by omega, by omega⟩ rfl ?_
              refine s_goto (t := 13) kx_90_60 (by decide) ?_
              exact cP.wk (lS1 rfl (lS1 rfl (lS1 rfl (lS1 rfl lS0)))) (ih18 (x3_7 + 1) T39 hT39 M39 hI39 hFm39 hFl1339 hG39 (by omega) hof44 (by omega) (by omega) (by omega) ⟨_, _, (LxA.fr q2l fr39 rfl), by omega, pd_step q1o (by omega) q2o⟩ (by omega))
            · replace v32p := v32p.resolve_left (by omega)
              have hx45 : SumX M33 (fun g => LvX s n 6 o p g) := (v32p.2.2.mono (fun g z => pd_xst q1o (by omega) z))
              refine s_iconst (v := 0) kx_90_49 (by decide) ?_
              exact s_iret kx_90_50 (Or.inr ⟨kq_90, by omega⟩) ⟨_, _, _, rfl, rfl, hT33, hI33, hFm33, hG33, (Or.inr ⟨rfl, ⟨by omega, hof36⟩, hx45⟩)⟩
    exact cP.wk (lS1 rfl (lS1 rfl (lS1 rfl (lS1 rfl lS0)))) (key9 _ 0 T2 hT2 M2 hI2 hFm2 Fr.refl hG2 (by omega) hof5 (by omega) (by omega) (by omega) ⟨_, _, q0l, by omega, pd_base q0o⟩ (Nat.lt_succ_self _))
  · replace v1p := v1p.resolve_left (by omega)
    have hx46 : SumX M2 (fun g => LvX s n 6 o p g) := (v1p.2.2.mono (fun g z => pd_xb z))
    refine s_iconst (v := 0) kx_90_9 (by decide) ?_
    exact s_iret kx_90_10 (Or.inr ⟨kq_90, by omega⟩) ⟨_, _, _, rfl, rfl, hT2, hI2, hFm2, hG2, (Or.inr ⟨rfl, ⟨by omega, hof5⟩, hx46⟩)⟩
def gS_89_l13 : List (Nat × Nat) := [(19, 1), (19, 2), (21, 99999), (22, 1), (22, 2), (24, 99999), (36, 1), (36, 2), (38, 99999), (39, 1), (39, 2), (41, 99999), (5, 2), (5, 3), (5, 4), (5, 5), (5, 6), (5, 7)]
theorem f_89 {xs : Nat → Int} {Ln d : Nat} {T : List cK} {M : cM} (hT : TT T) (hI : Rng M) (h50 : M 5 0 = ((2 : Nat) : Int)) {f : Nat} (hf : fF f) (hG : Gm T M) {o k : Int} {s : Nat → Int} {n p : Int} (hA : LxA M s n p) (hL : o < 7 → Lf xs Ln d (o + 1)) (p0 : 0 ≤ o ∧ o ≤ 7) (p1 : 0 ≤ k) (p2 : M f 2 + k ≤ M 5 2 ∧ (M 5 3 = 0 ∨ M 5 3 = 5 ∨ M f 2 + k + 1 ≤ M 5 2)) : cC k_P xs Ln (d + 7) 89 [rf 4, rf f, (0, o)] (T, M) (qG T M fS_par 0 (fun v M1 => (v = 1 ∧ (M1 f 2 + k ≤ M1 5 2 ∧ (M1 5 3 = 0 ∨ M1 5 3 = 5 ∨ M1 f 2 + k + 1 ≤ M1 5 2)) ∧ (M f 2 + 1 ≤ M1 f 2 ∧ OFp f M M1) ∧ SumO M1 s n p 0 (fun c q => LvOk s n 5 o p c q ∧ owAo s n q = 0)) ∨ (v = 0 ∧ (M1 f 2 + k ≤ M1 5 2 ∧ OFp f M M1) ∧ SumX M1 (fun g => LvX s n 5 o p g)))) := by
  show cP k_P xs Ln (d + 7) 89 0 [(0, rf 4), (1, rf f), (2, (0, o))] [] (T, M) _
  have hFm : Fr fS_par M M := Fr.refl
  have h51 := hA.2.1
  have h0 := hA.2.2.1
  have hpn := hA.2.2.2.1
  have h53 := hA.2.2.2.2.1
  have h55 := hA.2.2.2.2.2.1
  have h51r := rg_5_1 hI
  have h52 := rg_5_2 hI
  have h53r := rg_5_3 hI
  refine s_aload_n kx_89_0 rfl ?_
  refine s_aload_n kx_89_1 rfl ?_
  refine s_iload_n kx_89_2 rfl ?_
  refine s_callV2 (k := 4) (s1 := 3) (s2 := 0) (as := [(0, o), rf f]) (rest := []) kx_89_3 kp_89_18 (Or.inl rfl) rfl (tk_4 hT) ki_90 kcl_90 rfl rfl (by decide) (f_90 (d := d) (o := o) (k := k) hT hI h50 hf hG hA (fun h => (hL h).deep (by omega)) (by omega) (by omega) (by omega)) (kG (fun v1 T2 M2 hT2 hI2 fr2 hG2 v1p => ?_))
  have hFm2 := hFm.call fr2 rfl
  have tr3 := rg_5_2 hI2
  have tr4 := rg_5_3 hI2
  have hof5 := OFp.trans (OFp.refl (M := M)) (v1p.elim (fun z => z.2.2.1.2) (fun z => z.2.1.2))
  refine s_if_ne (t := 11) kx_89_6 (by decide) (fun hc6 => ?_) (fun hc6 => ?_)
  · replace v1p := v1p.resolve_right (by omega)
    obtain ⟨c0, q0, q0l, q0p, q0o⟩ := v1p.2.2.2
    have q0b := q0l.2.1
    have q0c := q0l.2.2.1
    have q0d := q0l.2.2.2.1
    have q0e := q0l.2.2.2.2.1
    have q0f := q0l.2.2.2.2.2.1
    refine s_iconst (v := 0) kx_89_11 (by decide) ?_
    refine s_istore_n kx_89_12 km_89_3 rfl ?_
    have key9 : ∀ n10 : Nat, ∀ (x3_7 : Int), ∀ T8 : List cK, TT T8 → ∀ M8 : cM, Rng M8 → Fr fS_par M M8 → Fr gS_89_l13 M2 M8 → Gm T8 M8 → (0 ≤ x3_7) → (OFp f M M8) → (M8 f 2 + k ≤ M8 5 2) → ((M8 5 3 = 0 ∨ M8 5 3 = 5 ∨ M8 f 2 + k + 1 ≤ M8 5 2)) → (M f 2 + 1 ≤ M8 f 2) → (SumO M8 s n p x3_7 (fun c q => LvOk s n 5 o p c q ∧ ¬ 12 ≤ owAo s n q)) → (2147483647 - x3_7).toNat < n10 → cP k_P xs Ln (d + 7) 89 13 [(0, rf 4), (1, rf f), (2, (0, o)), (3, (0, x3_7))] [] (T8, M8) (qG T M fS_par 0 (fun v M1 => (v = 1 ∧ (M1 f 2 + k ≤ M1 5 2 ∧ (M1 5 3 = 0 ∨ M1 5 3 = 5 ∨ M1 f 2 + k + 1 ≤ M1 5 2)) ∧ (M f 2 + 1 ≤ M1 f 2 ∧ OFp f M M1) ∧ SumO M1 s n p 0 (fun c q => LvOk s n 5 o p c q ∧ owAo s n q = 0)) ∨ (v = 0 ∧ (M1 f 2 + k ≤ M1 5 2 ∧ OFp f M M1) ∧ SumX M1 (fun g => LvX s n 5 o p g)))) := by
      intro n10
      induction n10 with
      | zero => intro x3_7 T8 hT8 M8 hI8 hFm8 fl8 hG8 i11 i12 i13 i14 i15 i16 hm17; exact absurd hm17 (Nat.not_lt_zero _)
      | succ n10 ih18 =>
        intro x3_7 T8 hT8 M8 hI8 hFm8 fl8 hG8 i11 i12 i13 i14 i15 i16 hm17
        have tr19 := rg_5_2 hI8
        have tr20 := rg_5_3 hI8
        obtain ⟨c1, q1, q1l, q1p, q1o⟩ := i16
        have q1b := q1l.2.1; have q1c := q1l.2.2.1
        have q1d := q1l.2.2.2.1
        have q1e := q1l.2.2.2.2.1
        have q1f := q1l.2.2.2.2.2.1
        refine s_iload_n kx_89_13 rfl ?_
        refine s_sipush (v := 1600) kx_89_14 (by decide) ?_
        refine s_icmp_ge (t := 95) kx_89_17 (by decide) (fun hc21 => ?_) (fun hc21 => ?_)
        · exact absurd q1p (by omega)
        · refine s_aload_n kx_89_20 rfl ?_
          refine r_getR (k := 4) (f := 0) (k2 := 5) kx_89_21 kp_89_12 (tk_4 hT8) kf_7_0 (by decide) (rq_4_0 hI8) ?_
          refine s_bipush (v := 43) kx_89_24 (by decide) ?_
          refine s_callV2 (k := 5) (s1 := 2) (s2 := 0) (as := [(0, 43)]) (rest := []) kx_89_26 kp_89_22 (Or.inl rfl) rfl (tk_5 hT8) ki_23 kcl_23 rfl rfl (by decide) (f_23 (d := d + 6) (c := 43) hT8 hI8 q1l) (kF (fun v22 v22p => ?_))
          refine s_if_ne (t := 44) kx_89_29 (by decide) (fun hc23 => ?_) (fun hc23 => ?_)
          · replace v22p := v22p.resolve_right (by omega)
            have hao : owAo s n q1 = 10 ∨ owAo s n q1 = 11 := by first | exact Or.inl (ao_43 (by omega)) | exact Or.inr (ao_45 (by omega))
            refine s_aload_n kx_89_44 rfl ?_
            refine r_getR (k := 4) (f := 0) (k2 := 5) kx_89_45 kp_89_12 (tk_4 hT8) kf_7_0 (by decide) (rq_4_0 hI8) ?_
            refine s_bipush (v := 43) kx_89_48 (by decide) ?_
            refine s_callV2 (k := 5) (s1 := 2) (s2 := 0) (as := [(0, 43)]) (rest := []) kx_89_50 kp_89_22 (Or.inl rfl) rfl (tk_5 hT8) ki_23 kcl_23 rfl rfl (by decide) (f_23 (d := d + 6) (c := 43) hT8 hI8 q1l) (kF (fun v24 v24p => ?_))
            refine s_if_eq (t := 61) kx_89_53 (by decide) (fun hc25 => ?_) (fun hc25 => ?_)
            · replace v24p := v24p.resolve_left (by omega)
              refine s_bipush (v := (-8)) kx_89_61 (by decide) ?_
              refine s_istore kx_89_63 km_89_4 rfl ?_
              have hvs : (-8) = 3 - owAo s n q1 := by first | (have h43 := ao_43 (s := s) (n := n) (p := q1) (by omega); omega) | (have h45 := ao_45 (s := s) (n := n) (p := q1) (by omega); omega)
              refine s_aload_n kx_89_65 rfl ?_
              refine r_getR (k := 4) (f := 0) (k2 := 5) kx_89_66 kp_89_12 (tk_4 hT8) kf_7_0 (by decide) (rq_4_0 hI8) ?_
              refine s_callV2 (k := 5) (s1 := 1) (s2 := 0) (as := []) (rest := []) kx_89_69 kp_89_28 (Or.inl rfl) rfl (tk_5 hT8) ki_26 kcl_26 rfl rfl (by decide) (f_26 (d := d + 4) hT8 hI8 ((fl8 5 0 rfl).trans ((fr2 5 0 rfl).trans h50)) (LxA.nx q1l (by omega) (by omega))) (kV (fun M27 hI27 fr27 v26p => ?_))
              have hFm27 := hFm8.call fr27 rfl
              have hFl1327 := fl8.call fr27 rfl
              have tr28 := (fr27 f 2 (by rcases hf with rfl | rfl | rfl | rfl <;> rfl))
              have tr29 := rg_5_2 hI27
              have tr30 := rg_5_3 hI27
              have la31b := (v26p.1).2.1
              have la31c := (v26p.1).2.2.1
              have la31d := (v26p.1).2.2.2.1
              have la31e := (v26p.1).2.2.2.2.1
              have la31f := (v26p.1).2.2.2.2.2.1
              have la31z := owE_gt (s := s) (q1l).2.2.2.1 (by omega)
              refine s_aload_n kx_89_72 rfl ?_
              refine s_aload_n kx_89_73 rfl ?_
              refine s_iload_n kx_89_74 rfl ?_
              refine s_callV2 (k := 4) (s1 := 3) (s2 := 0) (as := [(0, o), rf f]) (rest := []) kx_89_75 kp_89_18 (Or.inl rfl) rfl (tk_4 hT8) ki_90 kcl_90 rfl rfl (by decide) (f_90 (d := d) (o := o) (k := k + 1) hT8 hI27 ((fr27 5 0 rfl).trans ((fl8 5 0 rfl).trans ((fr2 5 0 rfl).trans h50))) hf (Gm.fr hG8 fr27 rfl) v26p.1 (fun h => (hL h).deep (by omega)) (by omega) (by omega) (by omega)) (kG (fun v32 T33 M33 hT33 hI33 fr33 hG33 v32p => ?_))
              have hFm33 := hFm27.call fr33 rfl
              have hFl1333 := hFl1327.call fr33 rfl
              have tr34 := rg_5_2 hI33
              have tr35 := rg_5_3 hI33
              have hof36 := OFp.trans (OFp.fr i12 fr27 rfl) (v32p.elim (fun z => z.2.2.1.2) (fun z => z.2.1.2))
              refine s_if_ne (t := 83) kx_89_78 (by decide) (fun hc37 => ?_) (fun hc37 => ?_)
              · replace v32p := v32p.resolve_right (by omega)
                obtain ⟨c2, q2, q2l, q2p, q2o⟩ := v32p.2.2.2
                have q2b := q2l.2.1
                have q2c := q2l.2.2.1
                have q2d := q2l.2.2.2.1
                have q2e := q2l.2.2.2.2.1
                have q2f := q2l.2.2.2.2.2.1
                refine s_aload_n kx_89_83 rfl ?_
                refine s_iload kx_89_84 rfl ?_
                refine s_callV2 (k := f) (s1 := 2) (s2 := 0) (as := [(0, (-8))]) (rest := []) kx_89_86 kp_89_31 (Or.inl rfl) rfl (tkf_0 hT33 hf) ki_10 kcl_10 rfl rfl (by decide) (f_10 (d := d + 4) (step := (-8)) hT33 hI33 hf hG33 (by omega)) (kGV (fun T39 M39 hT39 hI39 fr39 hG39 v38p => ?_))
                have hFm39 := hFm33.call fr39 rfl
                have hFl1339 := hFl1333.call fr39 rfl
                have tr40 := (fr39 5 2 rfl)
                have tr41 := (fr39 5 3 rfl)
                have tr42 := rg_5_2 hI39
                have tr43 := rg_5_3 hI39
                have hof44 := OFp.trans hof36 v38p.2
                refine r_iinc kx_89_89 rfl km_89_3 (by decide) ⟨by omega, by omega⟩ rfl ?_
                refine s_goto (t := 13) kx_89_92 (by decide) ?_
                exact cP.wk (lS1 rfl (lS1 rfl (lS1 rfl (lS1 rfl lS0)))) (ih18 (x3_7 + 1) T39 hT39 M39 hI39 hFm39 hFl1339 hG39 (by omega) hof44 (by omega) (by omega) (by omega) ⟨_, _, (LxA.fr q2l fr39 rfl), by omega, ⟨sm_step q1o.1 hao q2o.1, q2o.2⟩⟩ (by omega))
              · replace v32p := v32p.resolve_left (by omega)
                have hx45 : SumX M33 (fun g => LvX s n 5 o p g) := (v32p.2.2.mono (fun g z => sm_xst q1o.1 hao z))
                refine s_iconst (v := 0) kx_89_81 (by decide) ?_
                exact s_iret kx_89_82 (Or.inr ⟨kq_89, by omega⟩) ⟨_, _, _, rfl, rfl, hT33, hI33, hFm33, hG33, (Or.inr ⟨rfl, ⟨by omega, hof36⟩, hx45⟩)⟩
            · replace v24p := v24p.resolve_right (by omega)
              refine s_bipush (v := (-7)) kx_89_56 (by decide) ?_
              refine s_goto (t := 63) kx_89_58 (by decide) ?_
              refine s_istore kx_89_63 km_89_4 rfl ?_
              have hvs : (-7) = 3 - owAo s n q1 := by first | (have h43 := ao_43 (s := s) (n := n) (p := q1) (by omega); omega) | (have h45 := ao_45 (s := s) (n := n) (p := q1) (by omega); omega)
              refine s_aload_n kx_89_65 rfl ?_
              refine r_getR (k := 4) (f := 0) (k2 := 5) kx_89_66 kp_89_12 (tk_4 hT8) kf_7_0 (by decide) (rq_4_0 hI8) ?_
              refine s_callV2 (k := 5) (s1 := 1) (s2 := 0) (as := []) (rest := []) kx_89_69 kp_89_28 (Or.inl rfl) rfl (tk_5 hT8) ki_26 kcl_26 rfl rfl (by decide) (f_26 (d := d + 4) hT8 hI8 ((fl8 5 0 rfl).trans ((fr2 5 0 rfl).trans h50)) (LxA.nx q1l (by omega) (by omega))) (kV (fun M47 hI47 fr47 v46p => ?_))
              have hFm47 := hFm8.call fr47 rfl
              have hFl1347 := fl8.call fr47 rfl
              have tr48 := (fr47 f 2 (by rcases hf with rfl | rfl | rfl | rfl <;> rfl))
              have tr49 := rg_5_2 hI47
              have tr50 := rg_5_3 hI47
              have la51b := (v46p.1).2.1
              have la51c := (v46p.1).2.2.1
              have la51d := (v46p.1).2.2.2.1
              have la51e := (v46p.1).2.2.2.2.1
              have la51f := (v46p.1).2.2.2.2.2.1
              have la51z := owE_gt (s := s) (q1l).2.2.2.1 (by omega)
              refine s_aload_n kx_89_72 rfl ?_
              refine s_aload_n kx_89_73 rfl ?_
              refine s_iload_n kx_89_74 rfl ?_
              refine s_callV2 (k := 4) (s1 := 3) (s2 := 0) (as := [(0, o), rf f]) (rest := []) kx_89_75 kp_89_18 (Or.inl rfl) rfl (tk_4 hT8) ki_90 kcl_90 rfl rfl (by decide) (f_90 (d := d) (o := o) (k := k + 1) hT8 hI47 ((fr47 5 0 rfl).trans ((fl8 5 0 rfl).trans ((fr2 5 0 rfl).trans h50))) hf (Gm.fr hG8 fr47 rfl) v46p.1 (fun h => (hL h).deep (by omega)) (by omega) (by omega) (by omega)) (kG (fun v52 T53 M53 hT53 hI53 fr53 hG53 v52p => ?_))
              have hFm53 := hFm47.call fr53 rfl
              have hFl1353 := hFl1347.call fr53 rfl
              have tr54 := rg_5_2 hI53
              have tr55 := rg_5_3 hI53
              have hof56 := OFp.trans (OFp.fr i12 fr47 rfl) (v52p.elim (fun z => z.2.2.1.2) (fun z => z.2.1.2))
              refine s_if_ne (t := 83) kx_89_78 (by decide) (fun hc57 => ?_) (fun hc57 => ?_)
              · replace v52p := v52p.resolve_right (by omega)
                obtain ⟨c2, q2, q2l, q2p, q2o⟩ := v52p.2.2.2
                have q2b := q2l.2.1
                have q2c := q2l.2.2.1
                have q2d := q2l.2.2.2.1
                have q2e := q2l.2.2.2.2.1
                have q2f := q2l.2.2.2.2.2.1
                refine s_aload_n kx_89_83 rfl ?_
                refine s_iload kx_89_84 rfl ?_
                refine s_callV2 (k := f) (s1 := 2) (s2 := 0) (as := [(0, (-7))]) (rest := []) kx_89_86 kp_89_31 (Or.inl rfl) rfl (tkf_0 hT53 hf) ki_10 kcl_10 rfl rfl (by decide) (f_10 (d := d + 4) (step := (-7)) hT53 hI53 hf hG53 (by omega)) (kGV (fun T59 M59 hT59 hI59 fr59 hG59 v58p => ?_))
                have hFm59 := hFm53.call fr59 rfl
                have hFl1359 := hFl1353.call fr59 rfl
                have tr60 := (fr59 5 2 rfl)
                have tr61 := (fr59 5 3 rfl)
                have tr62 := rg_5_2 hI59
                have tr63 := rg_5_3 hI59
                have hof64 := OFp.trans hof56 v58p.2
                refine r_iinc kx_89_89 rfl km_89_3 (by decide) ⟨by omega, by omega⟩ rfl ?_
                refine s_goto (t := 13) kx_89_92 (by decide) ?_
                exact cP.wk (lS1 rfl (lS1 rfl (lS1 rfl (lS1 rfl lS0)))) (ih18 (x3_7 + 1) T59 hT59 M59 hI59 hFm59 hFl1359 hG59 (by omega) hof64 (by omega) (by omega) (by omega) ⟨_, _, (LxA.fr q2l fr59 rfl), by omega, ⟨sm_step q1o.1 hao q2o.1, q2o.2⟩⟩ (by omega))
              · replace v52p := v52p.resolve_left (by omega)
                have hx65 : SumX M53 (fun g => LvX s n 5 o p g) := (v52p.2.2.mono (fun g z => sm_xst q1o.1 hao z))
                refine s_iconst (v := 0) kx_89_81 (by decide) ?_
                exact s_iret kx_89_82 (Or.inr ⟨kq_89, by omega⟩) ⟨_, _, _, rfl, rfl, hT53, hI53, hFm53, hG53, (Or.inr ⟨rfl, ⟨by omega, hof56⟩, hx65⟩)⟩
          · replace v22p := v22p.resolve_left (by omega)
            refine s_aload_n kx_89_32 rfl ?_
            refine r_getR (k := 4) (f := 0) (k2 := 5) kx_89_33 kp_89_12 (tk_4 hT8) kf_7_0 (by decide) (rq_4_0 hI8) ?_
            refine s_bipush (v := 45) kx_89_36 (by decide) ?_
            refine s_callV2 (k := 5) (s1 := 2) (s2 := 0) (as := [(0, 45)]) (rest := []) kx_89_38 kp_89_22 (Or.inl rfl) rfl (tk_5 hT8) ki_23 kcl_23 rfl rfl (by decide) (f_23 (d := d + 6) (c := 45) hT8 hI8 q1l) (kF (fun v66 v66p => ?_))
            refine s_if_eq (t := 95) kx_89_41 (by decide) (fun hc67 => ?_) (fun hc67 => ?_)
            · replace v66p := v66p.resolve_left (by omega)
              have ho68 : SumO M8 s n p 0 (fun c q => LvOk s n 5 o p c q ∧ owAo s n q = 0) := ⟨c1, q1, q1l, by omega, q1o.1, ao_n5 q1o.2 (by omega) (by omega)⟩
              refine s_iconst (v := 1) kx_89_95 (by decide) ?_
              exact s_iret kx_89_96 (Or.inr ⟨kq_89, by omega⟩) ⟨_, _, _, rfl, rfl, hT8, hI8, hFm8, hG8, (Or.inl ⟨rfl, ⟨by omega, by omega⟩, ⟨by omega, i12⟩, ho68⟩)⟩
            · replace v66p := v66p.resolve_right (by omega)
              have hao : owAo s n q1 = 10 ∨ owAo s n q1 = 11 := by first | exact Or.inl (ao_43 (by omega)) | exact Or.inr (ao_45 (by omega))
              refine s_aload_n kx_89_44 rfl ?_
              refine r_getR (k := 4) (f := 0) (k2 := 5) kx_89_45 kp_89_12 (tk_4 hT8) kf_7_0 (by decide) (rq_4_0 hI8) ?_
              refine s_bipush (v := 43) kx_89_48 (by decide) ?_
              refine s_callV2 (k := 5) (s1 := 2) (s2 := 0) (as := [(0, 43)]) (rest := []) kx_89_50 kp_89_22 (Or.inl rfl) rfl (tk_5 hT8) ki_23 kcl_23 rfl rfl (by decide) (f_23 (d := d + 6) (c := 43) hT8 hI8 q1l) (kF (fun v69 v69p => ?_))
              refine s_if_eq (t := 61) kx_89_53 (by decide) (fun hc70 => ?_) (fun hc70 => ?_)
              · replace v69p := v69p.resolve_left (by omega)
                refine s_bipush (v := (-8)) kx_89_61 (by decide) ?_
                refine s_istore kx_89_63 km_89_4 rfl ?_
                have hvs : (-8) = 3 - owAo s n q1 := by first | (have h43 := ao_43 (s := s) (n := n) (p := q1) (by omega); omega) | (have h45 := ao_45 (s := s) (n := n) (p := q1) (by omega); omega)
                refine s_aload_n kx_89_65 rfl ?_
                refine r_getR (k := 4) (f := 0) (k2 := 5) kx_89_66 kp_89_12 (tk_4 hT8) kf_7_0 (by decide) (rq_4_0 hI8) ?_
                refine s_callV2 (k := 5) (s1 := 1) (s2 := 0) (as := []) (rest := []) kx_89_69 kp_89_28 (Or.inl rfl) rfl (tk_5 hT8) ki_26 kcl_26 rfl rfl (by decide) (f_26 (d := d + 4) hT8 hI8 ((fl8 5 0 rfl).trans ((fr2 5 0 rfl).trans h50)) (LxA.nx q1l (by omega) (by omega))) (kV (fun M72 hI72 fr72 v71p => ?_))
                have hFm72 := hFm8.call fr72 rfl
                have hFl1372 := fl8.call fr72 rfl
                have tr73 := (fr72 f 2 (by rcases hf with rfl | rfl | rfl | rfl <;> rfl))
                have tr74 := rg_5_2 hI72
                have tr75 := rg_5_3 hI72
                have la76b := (v71p.1).2.1
                have la76c := (v71p.1).2.2.1
                have la76d := (v71p.1).2.2.2.1
                have la76e := (v71p.1).2.2.2.2.1
                have la76f := (v71p.1).2.2.2.2.2.1
                have la76z := owE_gt (s := s) (q1l).2.2.2.1 (by omega)
                refine s_aload_n kx_89_72 rfl ?_
                refine s_aload_n kx_89_73 rfl ?_
                refine s_iload_n kx_89_74 rfl ?_
                refine s_callV2 (k := 4) (s1 := 3) (s2 := 0) (as := [(0, o), rf f]) (rest := []) kx_89_75 kp_89_18 (Or.inl rfl) rfl (tk_4 hT8) ki_90 kcl_90 rfl rfl (by decide) (f_90 (d := d) (o := o) (k := k + 1) hT8 hI72 ((fr72 5 0 rfl).trans ((fl8 5 0 rfl).trans ((fr2 5 0 rfl).trans h50))) hf (Gm.fr hG8 fr72 rfl) v71p.1 (fun h => (hL h).deep (by omega)) (by omega) (by omega) (by omega)) (kG (fun v77 T78 M78 hT78 hI78 fr78 hG78 v77p => ?_))
                have hFm78 := hFm72.call fr78 rfl
                have hFl1378 := hFl1372.call fr78 rfl
                have tr79 := rg_5_2 hI78
                have tr80 := rg_5_3 hI78
                have hof81 := OFp.trans (OFp.fr i12 fr72 rfl) (v77p.elim (fun z => z.2.2.1.2) (fun z => z.2.1.2))
                refine s_if_ne (t := 83) kx_89_78 (by decide) (fun hc82 => ?_) (fun hc82 => ?_)
                · replace v77p := v77p.resolve_right (by omega)
                  obtain ⟨c2, q2, q2l, q2p, q2o⟩ := v77p.2.2.2
                  have q2b := q2l.2.1
                  have q2c := q2l.2.2.1
                  have q2d := q2l.2.2.2.1
                  have q2e := q2l.2.2.2.2.1
                  have q2f := q2l.2.2.2.2.2.1
                  refine s_aload_n kx_89_83 rfl ?_
                  refine s_iload kx_89_84 rfl ?_
                  refine s_callV2 (k := f) (s1 := 2) (s2 := 0) (as := [(0, (-8))]) (rest := []) kx_89_86 kp_89_31 (Or.inl rfl) rfl (tkf_0 hT78 hf) ki_10 kcl_10 rfl rfl (by decide) (f_10 (d := d + 4) (step := (-8)) hT78 hI78 hf hG78 (by omega)) (kGV (fun T84 M84 hT84 hI84 fr84 hG84 v83p => ?_))
                  have hFm84 := hFm78.call fr84 rfl
                  have hFl1384 := hFl1378.call fr84 rfl
                  have tr85 := (fr84 5 2 rfl)
                  have tr86 := (fr84 5 3 rfl)
                  have tr87 := rg_5_2 hI84
                  have tr88 := rg_5_3 hI84
                  have hof89 := OFp.trans hof81 v83p.2
                  refine r_iinc kx_89_89 rfl km_89_3 (by decide) ⟨by omega, by omega⟩ rfl ?_
                  refine s_goto (t := 13) kx_89_92 (by decide) ?_
                  exact cP.wk (lS1 rfl (lS1 rfl (lS1 rfl (lS1 rfl lS0)))) (ih18 (x3_7 + 1) T84 hT84 M84 hI84 hFm84 hFl1384 hG84 (by omega) hof89 (by omega) (by omega) (by omega) ⟨_, _, (LxA.fr q2l fr84 rfl), by omega, ⟨sm_step q1o.1 hao q2o.1, q2o.2⟩⟩ (by omega))
                · replace v77p := v77p.resolve_left (by omega)
                  have hx90 : SumX M78 (fun g => LvX s n 5 o p g) := (v77p.2.2.mono (fun g z => sm_xst q1o.1 hao z))
                  refine s_iconst (v := 0) kx_89_81 (by decide) ?_
                  exact s_iret kx_89_82 (Or.inr ⟨kq_89, by omega⟩) ⟨_, _, _, rfl, rfl, hT78, hI78, hFm78, hG78, (Or.inr ⟨rfl, ⟨by omega, hof81⟩, hx90⟩)⟩
              · replace v69p := v69p.resolve_right (by omega)
                refine s_bipush (v := (-7)) kx_89_56 (by decide) ?_
                refine s_goto (t := 63) kx_89_58 (by decide) ?_
                refine s_istore kx_89_63 km_89_4 rfl ?_
                have hvs : (-7) = 3 - owAo s n q1 := by first | (have h43 := ao_43 (s := s) (n := n) (p := q1) (by omega); omega) | (have h45 := ao_45 (s := s) (n := n) (p := q1) (by omega); omega)
                refine s_aload_n kx_89_65 rfl ?_
                refine r_getR (k := 4) (f := 0) (k2 := 5) kx_89_66 kp_89_12 (tk_4 hT8) kf_7_0 (by decide) (rq_4_0 hI8) ?_
                refine s_callV2 (k := 5) (s1 := 1) (s2 := 0) (as := []) (rest := []) kx_89_69 kp_89_28 (Or.inl rfl) rfl (tk_5 hT8) ki_26 kcl_26 rfl rfl (by decide) (f_26 (d := d + 4) hT8 hI8 ((fl8 5 0 rfl).trans ((fr2 5 0 rfl).trans h50)) (LxA.nx q1l (by omega) (by omega))) (kV (fun M92 hI92 fr92 v91p => ?_))
                have hFm92 := hFm8.call fr92 rfl
                have hFl1392 := fl8.call fr92 rfl
                have tr93 := (fr92 f 2 (by rcases hf with rfl | rfl | rfl | rfl <;> rfl))
                have tr94 := rg_5_2 hI92
                have tr95 := rg_5_3 hI92
                have la96b := (v91p.1).2.1
                have la96c := (v91p.1).2.2.1
                have la96d := (v91p.1).2.2.2.1
                have la96e := (v91p.1).2.2.2.2.1
                have la96f := (v91p.1).2.2.2.2.2.1
                have la96z := owE_gt (s := s) (q1l).2.2.2.1 (by omega)
                refine s_aload_n kx_89_72 rfl ?_
                refine s_aload_n kx_89_73 rfl ?_
                refine s_iload_n kx_89_74 rfl ?_
                refine s_callV2 (k := 4) (s1 := 3) (s2 := 0) (as := [(0, o), rf f]) (rest := []) kx_89_75 kp_89_18 (Or.inl rfl) rfl (tk_4 hT8) ki_90 kcl_90 rfl rfl (by decide) (f_90 (d := d) (o := o) (k := k + 1) hT8 hI92 ((fr92 5 0 rfl).trans ((fl8 5 0 rfl).trans ((fr2 5 0 rfl).trans h50))) hf (Gm.fr hG8 fr92 rfl) v91p.1 (fun h => (hL h).deep (by omega)) (by omega) (by omega) (by omega)) (kG (fun v97 T98 M98 hT98 hI98 fr98 hG98 v97p => ?_))
                have hFm98 := hFm92.call fr98 rfl
                have hFl1398 := hFl1392.call fr98 rfl
                have tr99 := rg_5_2 hI98
                have tr100 := rg_5_3 hI98
                have hof101 := OFp.trans (OFp.fr i12 fr92 rfl) (v97p.elim (fun z => z.2.2.1.2) (fun z => z.2.1.2))
                refine s_if_ne (t := 83) kx_89_78 (by decide) (fun hc102 => ?_) (fun hc102 => ?_)
                · replace v97p := v97p.resolve_right (by omega)
                  obtain ⟨c2, q2, q2l, q2p, q2o⟩ := v97p.2.2.2
                  have q2b := q2l.2.1
                  have q2c := q2l.2.2.1
                  have q2d := q2l.2.2.2.1
                  have q2e := q2l.2.2.2.2.1
                  have q2f := q2l.2.2.2.2.2.1
                  refine s_aload_n kx_89_83 rfl ?_
                  refine s_iload kx_89_84 rfl ?_
                  refine s_callV2 (k := f) (s1 := 2) (s2 := 0) (as := [(0, (-7))]) (rest := []) kx_89_86 kp_89_31 (Or.inl rfl) rfl (tkf_0 hT98 hf) ki_10 kcl_10 rfl rfl (by decide) (f_10 (d := d + 4) (step := (-7)) hT98 hI98 hf hG98 (by omega)) (kGV (fun T104 M104 hT104 hI104 fr104 hG104 v103p => ?_))
                  have hFm104 := hFm98.call fr104 rfl
                  have hFl13104 := hFl1398.call fr104 rfl
                  have tr105 := (fr104 5 2 rfl)
                  have tr106 := (fr104 5 3 rfl)
                  have tr107 := rg_5_2 hI104
                  have tr108 := rg_5_3 hI104
                  have hof109 := OFp.trans hof101 v103p.2
                  refine r_iinc kx_89_89 rfl km_89_3 (by decide) ⟨by omega, by omega⟩ rfl ?_
                  refine s_goto (t := 13) kx_89_92 (by decide) ?_
                  exact cP.wk (lS1 rfl (lS1 rfl (lS1 rfl (lS1 rfl lS0)))) (ih18 (x3_7 + 1) T104 hT104 M104 hI104 hFm104 hFl13104 hG104 (by omega) hof109 (by omega) (by omega) (by omega) ⟨_, _, (LxA.fr q2l fr104 rfl), by omega, ⟨sm_step q1o.1 hao q2o.1, q2o.2⟩⟩ (by omega))
                · replace v97p := v97p.resolve_left (by omega)
                  have hx110 : SumX M98 (fun g => LvX s n 5 o p g) := (v97p.2.2.mono (fun g z => sm_xst q1o.1 hao z))
                  refine s_iconst (v := 0) kx_89_81 (by decide) ?_
                  exact s_iret kx_89_82 (Or.inr ⟨kq_89, by omega⟩) ⟨_, _, _, rfl, rfl, hT98, hI98, hFm98, hG98, (Or.inr ⟨rfl, ⟨by omega, hof101⟩, hx110⟩)⟩
    exact cP.wk (lS1 rfl (lS1 rfl (lS1 rfl (lS1 rfl lS0)))) (key9 _ 0 T2 hT2 M2 hI2 hFm2 Fr.refl hG2 (by omega) hof5 (by omega) (by omega) (by omega) ⟨_, _, q0l, by omega, ⟨sm_base q0o.1, q0o.2⟩⟩ (Nat.lt_succ_self _))
  · replace v1p := v1p.resolve_left (by omega)
    have hx111 : SumX M2 (fun g => LvX s n 5 o p g) := (v1p.2.2.mono (fun g z => sm_xb z))
    refine s_iconst (v := 0) kx_89_9 (by decide) ?_
    exact s_iret kx_89_10 (Or.inr ⟨kq_89, by omega⟩) ⟨_, _, _, rfl, rfl, hT2, hI2, hFm2, hG2, (Or.inr ⟨rfl, ⟨by omega, hof5⟩, hx111⟩)⟩
