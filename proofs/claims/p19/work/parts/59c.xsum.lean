def gS_97_l13 : List (Nat × Nat) := [(114, 99999), (19, 1), (19, 2), (21, 99999), (22, 1), (22, 2), (24, 99999), (36, 1), (36, 2), (38, 99999), (39, 1), (39, 2), (41, 99999), (5, 2), (5, 3), (5, 4), (5, 5), (5, 6), (5, 7)]
theorem f_97 {xs : Nat → Int} {Ln d : Nat} {T : List cK} {M : cM} (hT : TT T) (hI : Rng M) (h50 : M 5 0 = ((2 : Nat) : Int)) {f : Nat} (hf : fF f) (hG : Gm T M) {o k : Int} {s : Nat → Int} {n p : Int} (hA : LxA M s n p) (hL : o < 7 → Lf xs Ln d (o + 1)) (p0 : 0 ≤ o ∧ o ≤ 7) (p1 : 0 ≤ k) (p2 : M f 2 + k ≤ M 5 2 ∧ (M 5 3 = 0 ∨ M 5 3 = 5 ∨ M f 2 + k + 1 ≤ M 5 2)) : cC k_P xs Ln (d + 10) 97 [rf 4, rf f, (0, o)] (T, M) (qG T M fS_par 0 (fun v M1 => (v = 1 ∧ (M1 f 2 + k ≤ M1 5 2 ∧ (M1 5 3 = 0 ∨ M1 5 3 = 5 ∨ M1 f 2 + k + 1 ≤ M1 5 2)) ∧ (M f 2 + 1 ≤ M1 f 2 ∧ OFp f M M1) ∧ SumO M f M1 s n p 0 (fun c q => TlOk s n 2 o p c q ∧ owBo s n q ≠ 20)) ∨ (v = 0 ∧ (M1 f 2 + k ≤ M1 5 2 ∧ OFp f M M1) ∧ SumX M1 (fun g => TlX s n 2 o p g)))) := by
  show cP k_P xs Ln (d + 10) 97 0 [(0, rf 4), (1, rf f), (2, (0, o))] [] (T, M) _
  have hFm : Fr fS_par M M := Fr.refl
  have h51 := hA.2.1
  have h0 := hA.2.2.1
  have hpn := hA.2.2.2.1
  have h53 := hA.2.2.2.2.1
  have h55 := hA.2.2.2.2.2.1
  have h51r := rg_5_1 hI
  have h52 := rg_5_2 hI
  have h53r := rg_5_3 hI
  refine s_aload_n kx_97_0 rfl ?_
  refine s_aload_n kx_97_1 rfl ?_
  refine s_iload_n kx_97_2 rfl ?_
  refine s_callV2 (k := 4) (s1 := 3) (s2 := 0) (as := [(0, o), rf f]) (rest := []) kx_97_3 kp_97_84 (Or.inl rfl) rfl (tk_4 hT) ki_98 kcl_98 rfl rfl (by decide) (f_98 (d := d) (o := o) (k := k) hT hI h50 hf hG hA (fun h => (hL h).deep (by omega)) (by omega) (by omega) (by omega)) (kG (fun v1 T2 M2 hT2 hI2 fr2 hG2 v1p => ?_))
  have hFm2 := hFm.call fr2 rfl
  have tr3 := rg_5_2 hI2
  have tr4 := rg_5_3 hI2
  have hof5 := OFp.trans (OFp.refl (M := M)) (v1p.elim (fun z => z.2.2.1.2) (fun z => z.2.1.2))
  refine s_if_ne (t := 11) kx_97_6 (by decide) (fun hc6 => ?_) (fun hc6 => ?_)
  · replace v1p := v1p.resolve_right (by omega)
    obtain ⟨c0, q0, q0l, q0p, q0o, q0g⟩ := v1p.2.2.2
    have hfg7 := FCg.trans0 (FCg.refl (rgf_0_2 hI hf).1) q0g
    have q0b := q0l.2.1
    have q0c := q0l.2.2.1
    have q0d := q0l.2.2.2.1
    have q0e := q0l.2.2.2.2.1
    have q0f := q0l.2.2.2.2.2.1
    refine s_iconst (v := 0) kx_97_11 (by decide) ?_
    refine s_istore_n kx_97_12 km_97_3 rfl ?_
    have key10 : ∀ n11 : Nat, ∀ (x3_8 : Int), ∀ T9 : List cK, TT T9 → ∀ M9 : cM, Rng M9 → Fr fS_par M M9 → Fr gS_97_l13 M2 M9 → Gm T9 M9 → (0 ≤ x3_8) → (OFp f M M9) → (M9 f 2 + k ≤ M9 5 2) → ((M9 5 3 = 0 ∨ M9 5 3 = 5 ∨ M9 f 2 + k + 1 ≤ M9 5 2)) → (M f 2 + 1 ≤ M9 f 2) → (SumO M f M9 s n p x3_8 (fun c q => TlOk s n 2 o p c q)) → (2147483647 - x3_8).toNat < n11 → cP k_P xs Ln (d + 10) 97 13 [(0, rf 4), (1, rf f), (2, (0, o)), (3, (0, x3_8))] [] (T9, M9) (qG T M fS_par 0 (fun v M1 => (v = 1 ∧ (M1 f 2 + k ≤ M1 5 2 ∧ (M1 5 3 = 0 ∨ M1 5 3 = 5 ∨ M1 f 2 + k + 1 ≤ M1 5 2)) ∧ (M f 2 + 1 ≤ M1 f 2 ∧ OFp f M M1) ∧ SumO M f M1 s n p 0 (fun c q => TlOk s n 2 o p c q ∧ owBo s n q ≠ 20)) ∨ (v = 0 ∧ (M1 f 2 + k ≤ M1 5 2 ∧ OFp f M M1) ∧ SumX M1 (fun g => TlX s n 2 o p g)))) := by
      intro n11
      induction n11 with
      | zero => intro x3_8 T9 hT9 M9 hI9 hFm9 fl9 hG9 i12 i13 i14 i15 i16 i17 hm18; exact absurd hm18 (Nat.not_lt_zero _)
      | succ n11 ih19 =>
        intro x3_8 T9 hT9 M9 hI9 hFm9 fl9 hG9 i12 i13 i14 i15 i16 i17 hm18
        have tr20 := rg_5_2 hI9
        have tr21 := rg_5_3 hI9
        obtain ⟨c1, q1, q1l, q1p, q1o, q1g⟩ := i17
        have q1b := q1l.2.1; have q1c := q1l.2.2.1
        have q1d := q1l.2.2.2.1
        have q1e := q1l.2.2.2.2.1
        have q1f := q1l.2.2.2.2.2.1
        refine s_iload_n kx_97_13 rfl ?_
        refine s_sipush (v := 1600) kx_97_14 (by decide) ?_
        refine s_icmp_ge (t := 62) kx_97_17 (by decide) (fun hc22 => ?_) (fun hc22 => ?_)
        · exact absurd q1p (by omega)
        · refine s_aload_n kx_97_20 rfl ?_
          refine r_getR (k := 4) (f := 0) (k2 := 5) kx_97_21 kp_97_12 (tk_4 hT9) kf_7_0 (by decide) (rq_4_0 hI9) ?_
          refine s_ldc kx_97_24 kp_97_87 ?_
          refine s_callV2 (k := 5) (s1 := 2) (s2 := 0) (as := [(0, 48365568)]) (rest := []) kx_97_26 kp_97_80 (Or.inl rfl) rfl (tk_5 hT9) ki_22 kcl_22 rfl rfl (by decide) (f_22 (d := d + 9) (w := 48365568) hT9 hI9 q1l) (kF (fun v23 v23p => ?_))
          refine s_if_eq (t := 62) kx_97_29 (by decide) (fun hc24 => ?_) (fun hc24 => ?_)
          · replace v23p := v23p.resolve_left (by omega)
            have ho25 : SumC M9 s n p 0 (fun c q => TlOk s n 2 o p c q ∧ owBo s n q ≠ 20) _ := ⟨q1, q1l, by omega, q1o, bo_na (by omega)⟩
            refine s_iconst (v := 1) kx_97_62 (by decide) ?_
            exact s_iret kx_97_63 (Or.inr ⟨kq_97, by omega⟩) ⟨_, _, _, rfl, rfl, hT9, hI9, hFm9, hG9, (Or.inl ⟨rfl, ⟨by omega, by omega⟩, ⟨by omega, i13⟩, (SumC.o ho25 q1g)⟩)⟩
          · replace v23p := v23p.resolve_right (by omega)
            have hbo := bo_and (s := s) (n := n) (p := q1) (by omega)
            refine s_aload_n kx_97_32 rfl ?_
            refine r_getR (k := 4) (f := 0) (k2 := 5) kx_97_33 kp_97_12 (tk_4 hT9) kf_7_0 (by decide) (rq_4_0 hI9) ?_
            refine s_callV2 (k := 5) (s1 := 1) (s2 := 0) (as := []) (rest := []) kx_97_36 kp_97_28 (Or.inl rfl) rfl (tk_5 hT9) ki_26 kcl_26 rfl rfl (by decide) (f_26 (d := d + 7) hT9 hI9 ((fl9 5 0 rfl).trans ((fr2 5 0 rfl).trans h50)) (LxA.nx q1l (by omega) (by omega))) (kV (fun M27 hI27 fr27 v26p => ?_))
            have hFm27 := hFm9.call fr27 rfl
            have hFl1327 := fl9.call fr27 rfl
            have tr28 := (fr27 f 2 (by rcases hf with rfl | rfl | rfl | rfl <;> rfl))
            have tr29 := rg_5_2 hI27
            have tr30 := rg_5_3 hI27
            have la31b := (v26p.1).2.1
            have la31c := (v26p.1).2.2.1
            have la31d := (v26p.1).2.2.2.1
            have la31e := (v26p.1).2.2.2.2.1
            have la31f := (v26p.1).2.2.2.2.2.1
            have la31z := owE_gt (s := s) (q1l).2.2.2.1 (by omega)
            refine s_aload_n kx_97_39 rfl ?_
            refine s_aload_n kx_97_40 rfl ?_
            refine s_iload_n kx_97_41 rfl ?_
            refine s_callV2 (k := 4) (s1 := 3) (s2 := 0) (as := [(0, o), rf f]) (rest := []) kx_97_42 kp_97_84 (Or.inl rfl) rfl (tk_4 hT9) ki_98 kcl_98 rfl rfl (by decide) (f_98 (d := d) (o := o) (k := k + 1) hT9 hI27 ((fr27 5 0 rfl).trans ((fl9 5 0 rfl).trans ((fr2 5 0 rfl).trans h50))) hf (Gm.fr hG9 fr27 rfl) v26p.1 (fun h => (hL h).deep (by omega)) (by omega) (by omega) (by omega)) (kG (fun v32 T33 M33 hT33 hI33 fr33 hG33 v32p => ?_))
            have hFm33 := hFm27.call fr33 rfl
            have hFl1333 := hFl1327.call fr33 rfl
            have tr34 := rg_5_2 hI33
            have tr35 := rg_5_3 hI33
            have hof36 := OFp.trans (OFp.fr i13 fr27 rfl) (v32p.elim (fun z => z.2.2.1.2) (fun z => z.2.1.2))
            refine s_if_ne (t := 50) kx_97_45 (by decide) (fun hc37 => ?_) (fun hc37 => ?_)
            · replace v32p := v32p.resolve_right (by omega)
              obtain ⟨c2, q2, q2l, q2p, q2o, q2g⟩ := v32p.2.2.2
              have hfg38 := FCg.trans (FCg.fr q1g hf fr27 rfl) q2g
              have q2b := q2l.2.1
              have q2c := q2l.2.2.1
              have q2d := q2l.2.2.2.1
              have q2e := q2l.2.2.2.2.1
              have q2f := q2l.2.2.2.2.2.1
              refine s_aload_n kx_97_50 rfl ?_
              refine s_bipush (v := (-17)) kx_97_51 (by decide) ?_
              refine s_callV2 (k := f) (s1 := 2) (s2 := 0) (as := [(0, (-17))]) (rest := []) kx_97_53 kp_97_31 (Or.inl rfl) rfl (tkf_0 hT33 hf) ki_10 kcl_10 rfl rfl (by decide) (f_10 (d := d + 7) (step := (-17)) hT33 hI33 hf hG33 (by omega)) (kGV (fun T40 M40 hT40 hI40 fr40 hG40 v39p => ?_))
              have hFm40 := hFm33.call fr40 rfl
              have hFl1340 := hFl1333.call fr40 rfl
              have tr41 := (fr40 5 2 rfl)
              have tr42 := (fr40 5 3 rfl)
              have tr43 := rg_5_2 hI40
              have tr44 := rg_5_3 hI40
              have hfg46 := FCg.trans hfg38 v39p.2.2
              have hof45 := OFp.trans hof36 v39p.2.1
              refine r_iinc kx_97_56 rfl km_97_3 (by decide) ⟨by omega, by omega⟩ rfl ?_
              refine s_goto (t := 13) kx_97_59 (by decide) ?_
              exact cP.wk (lS1 rfl (lS1 rfl (lS1 rfl (lS1 rfl lS0)))) (ih19 (x3_8 + 1) T40 hT40 M40 hI40 hFm40 hFl1340 hG40 (by omega) hof45 (by omega) (by omega) (by omega) ⟨_, _, (LxA.fr q2l fr40 rfl), by omega, bo_step (l := 2) (Or.inl ⟨rfl, hbo⟩) q1o q2o, FCg.op hfg46 (by omega)⟩ (by omega))
            · replace v32p := v32p.resolve_left (by omega)
              have hx47 : SumX M33 (fun g => TlX s n 2 o p g) := (v32p.2.2.mono (fun g z => bo_xst (l := 2) (Or.inl ⟨rfl, hbo⟩) q1o z))
              refine s_iconst (v := 0) kx_97_48 (by decide) ?_
              exact s_iret kx_97_49 (Or.inr ⟨kq_97, by omega⟩) ⟨_, _, _, rfl, rfl, hT33, hI33, hFm33, hG33, (Or.inr ⟨rfl, ⟨by omega, hof36⟩, hx47⟩)⟩
    exact cP.wk (lS1 rfl (lS1 rfl (lS1 rfl (lS1 rfl lS0)))) (key10 _ 0 T2 hT2 M2 hI2 hFm2 Fr.refl hG2 (by omega) hof5 (by omega) (by omega) (by omega) ⟨_, _, q0l, by omega, tl_base (l := 2) (by decide) q0o, hfg7⟩ (Nat.lt_succ_self _))
  · replace v1p := v1p.resolve_left (by omega)
    have hx48 : SumX M2 (fun g => TlX s n 2 o p g) := (v1p.2.2.mono (fun g z => tl_xb (l := 2) (by decide) z))
    refine s_iconst (v := 0) kx_97_9 (by decide) ?_
    exact s_iret kx_97_10 (Or.inr ⟨kq_97, by omega⟩) ⟨_, _, _, rfl, rfl, hT2, hI2, hFm2, hG2, (Or.inr ⟨rfl, ⟨by omega, hof5⟩, hx48⟩)⟩
def gS_96_l13 : List (Nat × Nat) := [(114, 99999), (19, 1), (19, 2), (21, 99999), (22, 1), (22, 2), (24, 99999), (36, 1), (36, 2), (38, 99999), (39, 1), (39, 2), (41, 99999), (5, 2), (5, 3), (5, 4), (5, 5), (5, 6), (5, 7)]
theorem f_96 {xs : Nat → Int} {Ln d : Nat} {T : List cK} {M : cM} (hT : TT T) (hI : Rng M) (h50 : M 5 0 = ((2 : Nat) : Int)) {f : Nat} (hf : fF f) (hG : Gm T M) {o k : Int} {s : Nat → Int} {n p : Int} (hA : LxA M s n p) (hL : o < 7 → Lf xs Ln d (o + 1)) (p0 : 0 ≤ o ∧ o ≤ 7) (p1 : 0 ≤ k) (p2 : M f 2 + k ≤ M 5 2 ∧ (M 5 3 = 0 ∨ M 5 3 = 5 ∨ M f 2 + k + 1 ≤ M 5 2)) : cC k_P xs Ln (d + 11) 96 [rf 4, rf f, (0, o)] (T, M) (qG T M fS_par 0 (fun v M1 => (v = 1 ∧ (M1 f 2 + k ≤ M1 5 2 ∧ (M1 5 3 = 0 ∨ M1 5 3 = 5 ∨ M1 f 2 + k + 1 ≤ M1 5 2)) ∧ (M f 2 + 1 ≤ M1 f 2 ∧ OFp f M M1) ∧ SumO M f M1 s n p 0 (fun c q => TlOk s n 1 o p c q ∧ owBo s n q = 0)) ∨ (v = 0 ∧ (M1 f 2 + k ≤ M1 5 2 ∧ OFp f M M1) ∧ SumX M1 (fun g => TlX s n 1 o p g)))) := by
  show cP k_P xs Ln (d + 11) 96 0 [(0, rf 4), (1, rf f), (2, (0, o))] [] (T, M) _
  have hFm : Fr fS_par M M := Fr.refl
  have h51 := hA.2.1
  have h0 := hA.2.2.1
  have hpn := hA.2.2.2.1
  have h53 := hA.2.2.2.2.1
  have h55 := hA.2.2.2.2.2.1
  have h51r := rg_5_1 hI
  have h52 := rg_5_2 hI
  have h53r := rg_5_3 hI
  refine s_aload_n kx_96_0 rfl ?_
  refine s_aload_n kx_96_1 rfl ?_
  refine s_iload_n kx_96_2 rfl ?_
  refine s_callV2 (k := 4) (s1 := 3) (s2 := 0) (as := [(0, o), rf f]) (rest := []) kx_96_3 kp_96_76 (Or.inl rfl) rfl (tk_4 hT) ki_97 kcl_97 rfl rfl (by decide) (f_97 (d := d) (o := o) (k := k) hT hI h50 hf hG hA (fun h => (hL h).deep (by omega)) (by omega) (by omega) (by omega)) (kG (fun v1 T2 M2 hT2 hI2 fr2 hG2 v1p => ?_))
  have hFm2 := hFm.call fr2 rfl
  have tr3 := rg_5_2 hI2
  have tr4 := rg_5_3 hI2
  have hof5 := OFp.trans (OFp.refl (M := M)) (v1p.elim (fun z => z.2.2.1.2) (fun z => z.2.1.2))
  refine s_if_ne (t := 11) kx_96_6 (by decide) (fun hc6 => ?_) (fun hc6 => ?_)
  · replace v1p := v1p.resolve_right (by omega)
    obtain ⟨c0, q0, q0l, q0p, q0o, q0g⟩ := v1p.2.2.2
    have hfg7 := FCg.trans0 (FCg.refl (rgf_0_2 hI hf).1) q0g
    have q0b := q0l.2.1
    have q0c := q0l.2.2.1
    have q0d := q0l.2.2.2.1
    have q0e := q0l.2.2.2.2.1
    have q0f := q0l.2.2.2.2.2.1
    refine s_iconst (v := 0) kx_96_11 (by decide) ?_
    refine s_istore_n kx_96_12 km_96_3 rfl ?_
    have key10 : ∀ n11 : Nat, ∀ (x3_8 : Int), ∀ T9 : List cK, TT T9 → ∀ M9 : cM, Rng M9 → Fr fS_par M M9 → Fr gS_96_l13 M2 M9 → Gm T9 M9 → (0 ≤ x3_8) → (OFp f M M9) → (M9 f 2 + k ≤ M9 5 2) → ((M9 5 3 = 0 ∨ M9 5 3 = 5 ∨ M9 f 2 + k + 1 ≤ M9 5 2)) → (M f 2 + 1 ≤ M9 f 2) → (SumO M f M9 s n p x3_8 (fun c q => TlOk s n 1 o p c q ∧ owBo s n q ≠ 20)) → (2147483647 - x3_8).toNat < n11 → cP k_P xs Ln (d + 11) 96 13 [(0, rf 4), (1, rf f), (2, (0, o)), (3, (0, x3_8))] [] (T9, M9) (qG T M fS_par 0 (fun v M1 => (v = 1 ∧ (M1 f 2 + k ≤ M1 5 2 ∧ (M1 5 3 = 0 ∨ M1 5 3 = 5 ∨ M1 f 2 + k + 1 ≤ M1 5 2)) ∧ (M f 2 + 1 ≤ M1 f 2 ∧ OFp f M M1) ∧ SumO M f M1 s n p 0 (fun c q => TlOk s n 1 o p c q ∧ owBo s n q = 0)) ∨ (v = 0 ∧ (M1 f 2 + k ≤ M1 5 2 ∧ OFp f M M1) ∧ SumX M1 (fun g => TlX s n 1 o p g)))) := by
      intro n11
      induction n11 with
      | zero => intro x3_8 T9 hT9 M9 hI9 hFm9 fl9 hG9 i12 i13 i14 i15 i16 i17 hm18; exact absurd hm18 (Nat.not_lt_zero _)
      | succ n11 ih19 =>
        intro x3_8 T9 hT9 M9 hI9 hFm9 fl9 hG9 i12 i13 i14 i15 i16 i17 hm18
        have tr20 := rg_5_2 hI9
        have tr21 := rg_5_3 hI9
        obtain ⟨c1, q1, q1l, q1p, q1o, q1g⟩ := i17
        have q1b := q1l.2.1; have q1c := q1l.2.2.1
        have q1d := q1l.2.2.2.1
        have q1e := q1l.2.2.2.2.1
        have q1f := q1l.2.2.2.2.2.1
        refine s_iload_n kx_96_13 rfl ?_
        refine s_sipush (v := 1600) kx_96_14 (by decide) ?_
        refine s_icmp_ge (t := 62) kx_96_17 (by decide) (fun hc22 => ?_) (fun hc22 => ?_)
        · exact absurd q1p (by omega)
        · refine s_aload_n kx_96_20 rfl ?_
          refine r_getR (k := 4) (f := 0) (k2 := 5) kx_96_21 kp_96_12 (tk_4 hT9) kf_7_0 (by decide) (rq_4_0 hI9) ?_
          refine s_ldc kx_96_24 kp_96_79 ?_
          refine s_callV2 (k := 5) (s1 := 2) (s2 := 0) (as := [(0, 522190848)]) (rest := []) kx_96_26 kp_96_80 (Or.inl rfl) rfl (tk_5 hT9) ki_22 kcl_22 rfl rfl (by decide) (f_22 (d := d + 10) (w := 522190848) hT9 hI9 q1l) (kF (fun v23 v23p => ?_))
          refine s_if_eq (t := 62) kx_96_29 (by decide) (fun hc24 => ?_) (fun hc24 => ?_)
          · replace v23p := v23p.resolve_left (by omega)
            have ho25 : SumC M9 s n p 0 (fun c q => TlOk s n 1 o p c q ∧ owBo s n q = 0) _ := ⟨q1, q1l, by omega, q1o.1, bo_no q1o.2 (by omega)⟩
            refine s_iconst (v := 1) kx_96_62 (by decide) ?_
            exact s_iret kx_96_63 (Or.inr ⟨kq_96, by omega⟩) ⟨_, _, _, rfl, rfl, hT9, hI9, hFm9, hG9, (Or.inl ⟨rfl, ⟨by omega, by omega⟩, ⟨by omega, i13⟩, (SumC.o ho25 q1g)⟩)⟩
          · replace v23p := v23p.resolve_right (by omega)
            have hbo := bo_or (s := s) (n := n) (p := q1) (by omega)
            refine s_aload_n kx_96_32 rfl ?_
            refine r_getR (k := 4) (f := 0) (k2 := 5) kx_96_33 kp_96_12 (tk_4 hT9) kf_7_0 (by decide) (rq_4_0 hI9) ?_
            refine s_callV2 (k := 5) (s1 := 1) (s2 := 0) (as := []) (rest := []) kx_96_36 kp_96_28 (Or.inl rfl) rfl (tk_5 hT9) ki_26 kcl_26 rfl rfl (by decide) (f_26 (d := d + 8) hT9 hI9 ((fl9 5 0 rfl).trans ((fr2 5 0 rfl).trans h50)) (LxA.nx q1l (by omega) (by omega))) (kV (fun M27 hI27 fr27 v26p => ?_))
            have hFm27 := hFm9.call fr27 rfl
            have hFl1327 := fl9.call fr27 rfl
            have tr28 := (fr27 f 2 (by rcases hf with rfl | rfl | rfl | rfl <;> rfl))
            have tr29 := rg_5_2 hI27
            have tr30 := rg_5_3 hI27
            have la31b := (v26p.1).2.1
            have la31c := (v26p.1).2.2.1
            have la31d := (v26p.1).2.2.2.1
            have la31e := (v26p.1).2.2.2.2.1
            have la31f := (v26p.1).2.2.2.2.2.1
            have la31z := owE_gt (s := s) (q1l).2.2.2.1 (by omega)
            refine s_aload_n kx_96_39 rfl ?_
            refine s_aload_n kx_96_40 rfl ?_
            refine s_iload_n kx_96_41 rfl ?_
            refine s_callV2 (k := 4) (s1 := 3) (s2 := 0) (as := [(0, o), rf f]) (rest := []) kx_96_42 kp_96_76 (Or.inl rfl) rfl (tk_4 hT9) ki_97 kcl_97 rfl rfl (by decide) (f_97 (d := d) (o := o) (k := k + 1) hT9 hI27 ((fr27 5 0 rfl).trans ((fl9 5 0 rfl).trans ((fr2 5 0 rfl).trans h50))) hf (Gm.fr hG9 fr27 rfl) v26p.1 (fun h => (hL h).deep (by omega)) (by omega) (by omega) (by omega)) (kG (fun v32 T33 M33 hT33 hI33 fr33 hG33 v32p => ?_))
            have hFm33 := hFm27.call fr33 rfl
            have hFl1333 := hFl1327.call fr33 rfl
            have tr34 := rg_5_2 hI33
            have tr35 := rg_5_3 hI33
            have hof36 := OFp.trans (OFp.fr i13 fr27 rfl) (v32p.elim (fun z => z.2.2.1.2) (fun z => z.2.1.2))
            refine s_if_ne (t := 50) kx_96_45 (by decide) (fun hc37 => ?_) (fun hc37 => ?_)
            · replace v32p := v32p.resolve_right (by omega)
              obtain ⟨c2, q2, q2l, q2p, q2o, q2g⟩ := v32p.2.2.2
              have hfg38 := FCg.trans (FCg.fr q1g hf fr27 rfl) q2g
              have q2b := q2l.2.1
              have q2c := q2l.2.2.1
              have q2d := q2l.2.2.2.1
              have q2e := q2l.2.2.2.2.1
              have q2f := q2l.2.2.2.2.2.1
              refine s_aload_n kx_96_50 rfl ?_
              refine s_bipush (v := (-18)) kx_96_51 (by decide) ?_
              refine s_callV2 (k := f) (s1 := 2) (s2 := 0) (as := [(0, (-18))]) (rest := []) kx_96_53 kp_96_31 (Or.inl rfl) rfl (tkf_0 hT33 hf) ki_10 kcl_10 rfl rfl (by decide) (f_10 (d := d + 8) (step := (-18)) hT33 hI33 hf hG33 (by omega)) (kGV (fun T40 M40 hT40 hI40 fr40 hG40 v39p => ?_))
              have hFm40 := hFm33.call fr40 rfl
              have hFl1340 := hFl1333.call fr40 rfl
              have tr41 := (fr40 5 2 rfl)
              have tr42 := (fr40 5 3 rfl)
              have tr43 := rg_5_2 hI40
              have tr44 := rg_5_3 hI40
              have hfg46 := FCg.trans hfg38 v39p.2.2
              have hof45 := OFp.trans hof36 v39p.2.1
              refine r_iinc kx_96_56 rfl km_96_3 (by decide) ⟨by omega, by omega⟩ rfl ?_
              refine s_goto (t := 13) kx_96_59 (by decide) ?_
              exact cP.wk (lS1 rfl (lS1 rfl (lS1 rfl (lS1 rfl lS0)))) (ih19 (x3_8 + 1) T40 hT40 M40 hI40 hFm40 hFl1340 hG40 (by omega) hof45 (by omega) (by omega) (by omega) ⟨_, _, (LxA.fr q2l fr40 rfl), by omega, ⟨bo_step (l := 1) (Or.inr ⟨rfl, hbo⟩) q1o.1 q2o.1, q2o.2⟩, FCg.op hfg46 (by omega)⟩ (by omega))
            · replace v32p := v32p.resolve_left (by omega)
              have hx47 : SumX M33 (fun g => TlX s n 1 o p g) := (v32p.2.2.mono (fun g z => bo_xst (l := 1) (Or.inr ⟨rfl, hbo⟩) q1o.1 z))
              refine s_iconst (v := 0) kx_96_48 (by decide) ?_
              exact s_iret kx_96_49 (Or.inr ⟨kq_96, by omega⟩) ⟨_, _, _, rfl, rfl, hT33, hI33, hFm33, hG33, (Or.inr ⟨rfl, ⟨by omega, hof36⟩, hx47⟩)⟩
    exact cP.wk (lS1 rfl (lS1 rfl (lS1 rfl (lS1 rfl lS0)))) (key10 _ 0 T2 hT2 M2 hI2 hFm2 Fr.refl hG2 (by omega) hof5 (by omega) (by omega) (by omega) ⟨_, _, q0l, by omega, ⟨tl_base (l := 1) (by decide) q0o.1, q0o.2⟩, hfg7⟩ (Nat.lt_succ_self _))
  · replace v1p := v1p.resolve_left (by omega)
    have hx48 : SumX M2 (fun g => TlX s n 1 o p g) := (v1p.2.2.mono (fun g z => tl_xb (l := 1) (by decide) z))
    refine s_iconst (v := 0) kx_96_9 (by decide) ?_
    exact s_iret kx_96_10 (Or.inr ⟨kq_96, by omega⟩) ⟨_, _, _, rfl, rfl, hT2, hI2, hFm2, hG2, (Or.inr ⟨rfl, ⟨by omega, hof5⟩, hx48⟩)⟩
theorem lfl {xs : Nat → Int} {Ln D : Nat} {o : Int} (h0 : 0 ≤ o ∧ o ≤ 7) (hL : o < 7 → Lf xs Ln D (o + 1)) : Lf xs Ln (D + 11) o :=
  ⟨fun a b c e f l g i => (f_89 (d := D) a b c e f l hL h0 g i).deep (by omega), fun a b c e f l g i => (f_96 (d := D) a b c e f l hL h0 g i).deep (by omega), fun a b c e f l g i => (f_98 (d := D) a b c e f l hL h0 g i).deep (by omega)⟩
theorem lf_1 {xs : Nat → Int} {Ln : Nat} : Lf xs Ln 77 1 := by
  have h7 : Lf xs Ln (0 + 11) 7 := lfl (by decide) (fun h => absurd h (by decide))
  have h6 : Lf xs Ln (11 + 11) 6 := lfl (by decide) (fun _ => h7)
  have h5 : Lf xs Ln (22 + 11) 5 := lfl (by decide) (fun _ => h6)
  have h4 : Lf xs Ln (33 + 11) 4 := lfl (by decide) (fun _ => h5)
  have h3 : Lf xs Ln (44 + 11) 3 := lfl (by decide) (fun _ => h4)
  have h2 : Lf xs Ln (55 + 11) 2 := lfl (by decide) (fun _ => h3)
  exact lfl (by decide) (fun _ => h2)
