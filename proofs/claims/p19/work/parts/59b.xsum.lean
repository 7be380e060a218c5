theorem f_100 {xs : Nat → Int} {Ln d : Nat} {T : List cK} {M : cM} (hT : TT T) (hI : Rng M) (h50 : M 5 0 = ((2 : Nat) : Int)) {f : Nat} (hf : fF f) (hG : Gm T M) {o k : Int} {s : Nat → Int} {n p : Int} (hA : LxA M s n p) (hL : o < 7 → Lf xs Ln d (o + 1)) (p0 : 0 ≤ o ∧ o ≤ 7) (p1 : 0 ≤ k) (p2 : M f 2 + k ≤ M 5 2 ∧ (M 5 3 = 0 ∨ M 5 3 = 5 ∨ M f 2 + k + 1 ≤ M 5 2)) : cC k_P xs Ln (d + 8) 100 [rf 4, rf f, (0, o)] (T, M) (qG T M fS_par 0 (fun v M1 => (v = 1 ∧ (M1 f 2 + k ≤ M1 5 2 ∧ (M1 5 3 = 0 ∨ M1 5 3 = 5 ∨ M1 f 2 + k + 1 ≤ M1 5 2)) ∧ (M f 2 + 1 ≤ M1 f 2 ∧ OFp f M M1) ∧ SumO M f M1 s n p 0 (fun c q => ∃ d, c = (3 - owCo s n p) :: d ∧ owCo s n p ≠ 0 ∧ LvOk s n 5 o (owE s n p) d q ∧ owAo s n q = 0)) ∨ (v = 0 ∧ (M1 f 2 + k ≤ M1 5 2 ∧ OFp f M M1) ∧ SumX M1 (fun g => (owCo s n p = 0 ∧ g = owU s n p) ∨ (owCo s n p ≠ 0 ∧ LvX s n 5 o (owE s n p) g))))) := by
  show cP k_P xs Ln (d + 8) 100 0 [(0, rf 4), (1, rf f), (2, (0, o))] [] (T, M) _
  have hFm : Fr fS_par M M := Fr.refl
  have h51 := hA.2.1
  have h0 := hA.2.2.1
  have hpn := hA.2.2.2.1
  have h53 := hA.2.2.2.2.1
  have h55 := hA.2.2.2.2.2.1
  have h51r := rg_5_1 hI
  have h52 := rg_5_2 hI
  have h53r := rg_5_3 hI
  refine s_aload_n kx_100_0 rfl ?_
  refine r_getR (k := 4) (f := 0) (k2 := 5) kx_100_1 kp_100_12 (tk_4 hT) kf_7_0 (by decide) (rq_4_0 hI) ?_
  refine s_bipush (v := 60) kx_100_4 (by decide) ?_
  refine s_callV2 (k := 5) (s1 := 2) (s2 := 0) (as := [(0, 60)]) (rest := []) kx_100_6 kp_100_22 (Or.inl rfl) rfl (tk_5 hT) ki_23 kcl_23 rfl rfl (by decide) (f_23 (d := d + 7) (c := 60) hT hI hA) (kF (fun v1 v1p => ?_))
  refine s_if_eq (t := 17) kx_100_9 (by decide) (fun hc2 => ?_) (fun hc2 => ?_)
  · replace v1p := v1p.resolve_left (by omega)
    refine s_aload_n kx_100_17 rfl ?_
    refine r_getR (k := 4) (f := 0) (k2 := 5) kx_100_18 kp_100_12 (tk_4 hT) kf_7_0 (by decide) (rq_4_0 hI) ?_
    refine s_bipush (v := 62) kx_100_21 (by decide) ?_
    refine s_callV2 (k := 5) (s1 := 2) (s2 := 0) (as := [(0, 62)]) (rest := []) kx_100_23 kp_100_22 (Or.inl rfl) rfl (tk_5 hT) ki_23 kcl_23 rfl rfl (by decide) (f_23 (d := d + 7) (c := 62) hT hI hA) (kF (fun v3 v3p => ?_))
    refine s_if_eq (t := 34) kx_100_26 (by decide) (fun hc4 => ?_) (fun hc4 => ?_)
    · replace v3p := v3p.resolve_left (by omega)
      refine s_bipush (v := (-16)) kx_100_34 (by decide) ?_
      refine s_istore_n kx_100_36 km_100_3 rfl ?_
      refine s_iload_n kx_100_37 rfl ?_
      refine s_bipush (v := (-16)) kx_100_38 (by decide) ?_
      refine s_icmp_ne (t := 63) kx_100_40 (by decide) (fun hc5 => absurd hc5 (by decide)) (fun hc5 => ?_)
      refine s_aload_n kx_100_43 rfl ?_
      refine r_getR (k := 4) (f := 0) (k2 := 5) kx_100_44 kp_100_12 (tk_4 hT) kf_7_0 (by decide) (rq_4_0 hI) ?_
      refine s_bipush (v := 61) kx_100_47 (by decide) ?_
      refine s_callV2 (k := 5) (s1 := 2) (s2 := 0) (as := [(0, 61)]) (rest := []) kx_100_49 kp_100_22 (Or.inl rfl) rfl (tk_5 hT) ki_23 kcl_23 rfl rfl (by decide) (f_23 (d := d + 7) (c := 61) hT hI hA) (kF (fun v6 v6p => ?_))
      refine s_if_ne (t := 63) kx_100_52 (by decide) (fun hc7 => ?_) (fun hc7 => ?_)
      · replace v6p := v6p.resolve_right (by omega)
        have hco : owCo s n p ≠ 0 := by first | (have h60 := co_60 (s := s) (n := n) (p := p) (by omega); omega) | (have h62 := co_62 (s := s) (n := n) (p := p) (by omega); omega) | (have h61 := co_61 (s := s) (n := n) (p := p) (by omega); omega)
        have hcs : (-16) = 3 - owCo s n p := by first | (have h60 := co_60 (s := s) (n := n) (p := p) (by omega); omega) | (have h62 := co_62 (s := s) (n := n) (p := p) (by omega); omega) | (have h61 := co_61 (s := s) (n := n) (p := p) (by omega); omega)
        refine s_aload_n kx_100_63 rfl ?_
        refine r_getR (k := 4) (f := 0) (k2 := 5) kx_100_64 kp_100_12 (tk_4 hT) kf_7_0 (by decide) (rq_4_0 hI) ?_
        refine s_callV2 (k := 5) (s1 := 1) (s2 := 0) (as := []) (rest := []) kx_100_67 kp_100_28 (Or.inl rfl) rfl (tk_5 hT) ki_26 kcl_26 rfl rfl (by decide) (f_26 (d := d + 5) hT hI h50 (LxA.nx hA (by omega) (by omega))) (kV (fun M9 hI9 fr9 v8p => ?_))
        have hFm9 := hFm.call fr9 rfl
        have tr10 := (fr9 f 2 (by rcases hf with rfl | rfl | rfl | rfl <;> rfl))
        have tr11 := rg_5_2 hI9
        have tr12 := rg_5_3 hI9
        have la13b := (v8p.1).2.1
        have la13c := (v8p.1).2.2.1
        have la13d := (v8p.1).2.2.2.1
        have la13e := (v8p.1).2.2.2.2.1
        have la13f := (v8p.1).2.2.2.2.2.1
        have la13z := owE_gt (s := s) (hA).2.2.2.1 (by omega)
        refine s_aload_n kx_100_70 rfl ?_
        refine s_aload_n kx_100_71 rfl ?_
        refine s_iload_n kx_100_72 rfl ?_
        refine s_callV2 (k := 4) (s1 := 3) (s2 := 0) (as := [(0, o), rf f]) (rest := []) kx_100_73 kp_100_56 (Or.inl rfl) rfl (tk_4 hT) ki_89 kcl_89 rfl rfl (by decide) (f_89 (d := d) (o := o) (k := k + 1) hT hI9 ((fr9 5 0 rfl).trans h50) hf (Gm.fr hG fr9 rfl) v8p.1 (fun h => (hL h).deep (by omega)) (by omega) (by omega) (by omega)) (kG (fun v14 T15 M15 hT15 hI15 fr15 hG15 v14p => ?_))
        have hFm15 := hFm9.call fr15 rfl
        have tr16 := rg_5_2 hI15
        have tr17 := rg_5_3 hI15
        have hof18 := OFp.trans (OFp.fr (OFp.refl (M := M)) fr9 rfl) (v14p.elim (fun z => z.2.2.1.2) (fun z => z.2.1.2))
        refine s_istore kx_100_76 km_100_4 rfl ?_
        refine s_aload_n kx_100_78 rfl ?_
        refine s_iload_n kx_100_79 rfl ?_
        refine s_callV2 (k := f) (s1 := 2) (s2 := 0) (as := [(0, (-16))]) (rest := []) kx_100_80 kp_100_31 (Or.inl rfl) rfl (tkf_0 hT15 hf) ki_10 kcl_10 rfl rfl (by decide) (f_10 (d := d + 5) (step := (-16)) hT15 hI15 hf hG15 (by omega)) (kGV (fun T20 M20 hT20 hI20 fr20 hG20 v19p => ?_))
        have hFm20 := hFm15.call fr20 rfl
        have tr21 := (fr20 5 2 rfl)
        have tr22 := (fr20 5 3 rfl)
        have tr23 := rg_5_2 hI20
        have tr24 := rg_5_3 hI20
        have hof25 := OFp.trans hof18 v19p.2.1
        refine s_iload kx_100_83 rfl ?_
        exact s_iret kx_100_85 (Or.inr ⟨kq_100, by omega⟩) ⟨_, _, _, rfl, rfl, hT20, hI20, hFm20, hG20, (v14p.elim (fun z => Or.inl ⟨z.1, ⟨by omega, by omega⟩, ⟨by omega, hof25⟩, (fun ⟨c, q, a1, a2, a3, a4⟩ => ⟨_, q, a1.fr fr20 rfl, by omega, ⟨c, rfl, hco, a3.1, a3.2⟩, FCg.op (FCg.trans (FCg.trans0 (FCg.fr (FCg.refl (rgf_0_2 hI hf).1) hf fr9 rfl) a4) v19p.2.2) hcs⟩) z.2.2.2⟩) (fun z => Or.inr ⟨z.1, ⟨by omega, hof25⟩, SumX.fr (z.2.2.mono (fun g y => Or.inr ⟨hco, y⟩)) fr20 rfl⟩))⟩
      · replace v6p := v6p.resolve_left (by omega)
        refine s_aload_n kx_100_55 rfl ?_
        refine r_getR (k := 4) (f := 0) (k2 := 5) kx_100_56 kp_100_12 (tk_4 hT) kf_7_0 (by decide) (rq_4_0 hI) ?_
        refine s_callV2 (k := 5) (s1 := 1) (s2 := 0) (as := []) (rest := []) kx_100_59 kp_100_62 (Or.inl rfl) rfl (tk_5 hT) ki_21 kcl_21 rfl rfl (by decide) (f_21 (d := d + 6) hT hI) (kW (fun v26 M27 hI27 fr27 v26p => ?_))
        have hFm27 := hFm.call fr27 rfl
        have tr28 := (fr27 5 2 rfl)
        have tr29 := (fr27 5 3 rfl)
        have tr30 := (fr27 f 2 (by rcases hf with rfl | rfl | rfl | rfl <;> rfl))
        have tr31 := rg_5_2 hI27
        have tr32 := rg_5_3 hI27
        exact s_iret kx_100_62 (Or.inr ⟨kq_100, by omega⟩) ⟨_, _, _, rfl, rfl, hT, hI27, hFm27, (Gm.fr hG fr27 rfl), (Or.inr ⟨by omega, ⟨by omega, (OFp.fr (OFp.refl (M := M)) fr27 rfl)⟩, SumX.un (LxA.un hA (by omega) v26p.2.2) h0 (Or.inl ⟨co_n (by omega) (by omega) (by omega), rfl⟩)⟩)⟩
    · replace v3p := v3p.resolve_right (by omega)
      refine s_bipush (v := (-15)) kx_100_29 (by decide) ?_
      refine s_goto (t := 36) kx_100_31 (by decide) ?_
      refine s_istore_n kx_100_36 km_100_3 rfl ?_
      refine s_iload_n kx_100_37 rfl ?_
      refine s_bipush (v := (-16)) kx_100_38 (by decide) ?_
      refine s_icmp_ne (t := 63) kx_100_40 (by decide) (fun hc33 => ?_) (fun hc33 => absurd hc33 (by decide))
      have hco : owCo s n p ≠ 0 := by first | (have h60 := co_60 (s := s) (n := n) (p := p) (by omega); omega) | (have h62 := co_62 (s := s) (n := n) (p := p) (by omega); omega) | (have h61 := co_61 (s := s) (n := n) (p := p) (by omega); omega)
      have hcs : (-15) = 3 - owCo s n p := by first | (have h60 := co_60 (s := s) (n := n) (p := p) (by omega); omega) | (have h62 := co_62 (s := s) (n := n) (p := p) (by omega); omega) | (have h61 := co_61 (s := s) (n := n) (p := p) (by omega); omega)
      refine s_aload_n kx_100_63 rfl ?_
      refine r_getR (k := 4) (f := 0) (k2 := 5) kx_100_64 kp_100_12 (tk_4 hT) kf_7_0 (by decide) (rq_4_0 hI) ?_
      refine s_callV2 (k := 5) (s1 := 1) (s2 := 0) (as := []) (rest := []) kx_100_67 kp_100_28 (Or.inl rfl) rfl (tk_5 hT) ki_26 kcl_26 rfl rfl (by decide) (f_26 (d := d + 5) hT hI h50 (LxA.nx hA (by omega) (by omega))) (kV (fun M35 hI35 fr35 v34p => ?_))
      have hFm35 := hFm.call fr35 rfl
      have tr36 := (fr35 f 2 (by rcases hf with rfl | rfl | rfl | rfl <;> rfl))
      have tr37 := rg_5_2 hI35
      have tr38 := rg_5_3 hI35
      have la39b := (v34p.1).2.1
      have la39c := (v34p.1).2.2.1
      have la39d := (v34p.1).2.2.2.1
      have la39e := (v34p.1).2.2.2.2.1
      have la39f := (v34p.1).2.2.2.2.2.1
      have la39z := owE_gt (s := s) (hA).2.2.2.1 (by omega)
      refine s_aload_n kx_100_70 rfl ?_
      refine s_aload_n kx_100_71 rfl ?_
      refine s_iload_n kx_100_72 rfl ?_
      refine s_callV2 (k := 4) (s1 := 3) (s2 := 0) (as := [(0, o), rf f]) (rest := []) kx_100_73 kp_100_56 (Or.inl rfl) rfl (tk_4 hT) ki_89 kcl_89 rfl rfl (by decide) (f_89 (d := d) (o := o) (k := k + 1) hT hI35 ((fr35 5 0 rfl).trans h50) hf (Gm.fr hG fr35 rfl) v34p.1 (fun h => (hL h).deep (by omega)) (by omega) (by omega) (by omega)) (kG (fun v40 T41 M41 hT41 hI41 fr41 hG41 v40p => ?_))
      have hFm41 := hFm35.call fr41 rfl
      have tr42 := rg_5_2 hI41
      have tr43 := rg_5_3 hI41
      have hof44 := OFp.trans (OFp.fr (OFp.refl (M := M)) fr35 rfl) (v40p.elim (fun z => z.2.2.1.2) (fun z => z.2.1.2))
      refine s_istore kx_100_76 km_100_4 rfl ?_
      refine s_aload_n kx_100_78 rfl ?_
      refine s_iload_n kx_100_79 rfl ?_
      refine s_callV2 (k := f) (s1 := 2) (s2 := 0) (as := [(0, (-15))]) (rest := []) kx_100_80 kp_100_31 (Or.inl rfl) rfl (tkf_0 hT41 hf) ki_10 kcl_10 rfl rfl (by decide) (f_10 (d := d + 5) (step := (-15)) hT41 hI41 hf hG41 (by omega)) (kGV (fun T46 M46 hT46 hI46 fr46 hG46 v45p => ?_))
      have hFm46 := hFm41.call fr46 rfl
      have tr47 := (fr46 5 2 rfl)
      have tr48 := (fr46 5 3 rfl)
      have tr49 := rg_5_2 hI46
      have tr50 := rg_5_3 hI46
      have hof51 := OFp.trans hof44 v45p.2.1
      refine s_iload kx_100_83 rfl ?_
      exact s_iret kx_100_85 (Or.inr ⟨kq_100, by omega⟩) ⟨_, _, _, rfl, rfl, hT46, hI46, hFm46, hG46, (v40p.elim (fun z => Or.inl ⟨z.1, ⟨by omega, by omega⟩, ⟨by omega, hof51⟩, (fun ⟨c, q, a1, a2, a3, a4⟩ => ⟨_, q, a1.fr fr46 rfl, by omega, ⟨c, rfl, hco, a3.1, a3.2⟩, FCg.op (FCg.trans (FCg.trans0 (FCg.fr (FCg.refl (rgf_0_2 hI hf).1) hf fr35 rfl) a4) v45p.2.2) hcs⟩) z.2.2.2⟩) (fun z => Or.inr ⟨z.1, ⟨by omega, hof51⟩, SumX.fr (z.2.2.mono (fun g y => Or.inr ⟨hco, y⟩)) fr46 rfl⟩))⟩
  · replace v1p := v1p.resolve_right (by omega)
    refine s_bipush (v := (-14)) kx_100_12 (by decide) ?_
    refine s_goto (t := 36) kx_100_14 (by decide) ?_
    refine s_istore_n kx_100_36 km_100_3 rfl ?_
    refine s_iload_n kx_100_37 rfl ?_
    refine s_bipush (v := (-16)) kx_100_38 (by decide) ?_
    refine s_icmp_ne (t := 63) kx_100_40 (by decide) (fun hc52 => ?_) (fun hc52 => absurd hc52 (by decide))
    have hco : owCo s n p ≠ 0 := by first | (have h60 := co_60 (s := s) (n := n) (p := p) (by omega); omega) | (have h62 := co_62 (s := s) (n := n) (p := p) (by omega); omega) | (have h61 := co_61 (s := s) (n := n) (p := p) (by omega); omega)
    have hcs : (-14) = 3 - owCo s n p := by first | (have h60 := co_60 (s := s) (n := n) (p := p) (by omega); omega) | (have h62 := co_62 (s := s) (n := n) (p := p) (by omega); omega) | (have h61 := co_61 (s := s) (n := n) (p := p) (by omega); omega)
    refine s_aload_n kx_100_63 rfl ?_
    refine r_getR (k := 4) (f := 0) (k2 := 5) kx_100_64 kp_100_12 (tk_4 hT) kf_7_0 (by decide) (rq_4_0 hI) ?_
    refine s_callV2 (k := 5) (s1 := 1) (s2 := 0) (as := []) (rest := []) kx_100_67 kp_100_28 (Or.inl rfl) rfl (tk_5 hT) ki_26 kcl_26 rfl rfl (by decide) (f_26 (d := d + 5) hT hI h50 (LxA.nx hA (by omega) (by omega))) (kV (fun M54 hI54 fr54 v53p => ?_))
    have hFm54 := hFm.call fr54 rfl
    have tr55 := (fr54 f 2 (by rcases hf with rfl | rfl | rfl | rfl <;> rfl))
    have tr56 := rg_5_2 hI54
    have tr57 := rg_5_3 hI54
    have la58b := (v53p.1).2.1
    have la58c := (v53p.1).2.2.1
    have la58d := (v53p.1).2.2.2.1
    have la58e := (v53p.1).2.2.2.2.1
    have la58f := (v53p.1).2.2.2.2.2.1
    have la58z := owE_gt (s := s) (hA).2.2.2.1 (by omega)
    refine s_aload_n kx_100_70 rfl ?_
    refine s_aload_n kx_100_71 rfl ?_
    refine s_iload_n kx_100_72 rfl ?_
    refine s_callV2 (k := 4) (s1 := 3) (s2 := 0) (as := [(0, o), rf f]) (rest := []) kx_100_73 kp_100_56 (Or.inl rfl) rfl (tk_4 hT) ki_89 kcl_89 rfl rfl (by decide) (f_89 (d := d) (o := o) (k := k + 1) hT hI54 ((fr54 5 0 rfl).trans h50) hf (Gm.fr hG fr54 rfl) v53p.1 (fun h => (hL h).deep (by omega)) (by omega) (by omega) (by omega)) (kG (fun v59 T60 M60 hT60 hI60 fr60 hG60 v59p => ?_))
    have hFm60 := hFm54.call fr60 rfl
    have tr61 := rg_5_2 hI60
    have tr62 := rg_5_3 hI60
    have hof63 := OFp.trans (OFp.fr (OFp.refl (M := M)) fr54 rfl) (v59p.elim (fun z => z.2.2.1.2) (fun z => z.2.1.2))
    refine s_istore kx_100_76 km_100_4 rfl ?_
    refine s_aload_n kx_100_78 rfl ?_
    refine s_iload_n kx_100_79 rfl ?_
    refine s_callV2 (k := f) (s1 := 2) (s2 := 0) (as := [(0, (-14))]) (rest := []) kx_100_80 kp_100_31 (Or.inl rfl) rfl (tkf_0 hT60 hf) ki_10 kcl_10 rfl rfl (by decide) (f_10 (d := d + 5) (step := (-14)) hT60 hI60 hf hG60 (by omega)) (kGV (fun T65 M65 hT65 hI65 fr65 hG65 v64p => ?_))
    have hFm65 := hFm60.call fr65 rfl
    have tr66 := (fr65 5 2 rfl)
    have tr67 := (fr65 5 3 rfl)
    have tr68 := rg_5_2 hI65
    have tr69 := rg_5_3 hI65
    have hof70 := OFp.trans hof63 v64p.2.1
    refine s_iload kx_100_83 rfl ?_
    exact s_iret kx_100_85 (Or.inr ⟨kq_100, by omega⟩) ⟨_, _, _, rfl, rfl, hT65, hI65, hFm65, hG65, (v59p.elim (fun z => Or.inl ⟨z.1, ⟨by omega, by omega⟩, ⟨by omega, hof70⟩, (fun ⟨c, q, a1, a2, a3, a4⟩ => ⟨_, q, a1.fr fr65 rfl, by omega, ⟨c, rfl, hco, a3.1, a3.2⟩, FCg.op (FCg.trans (FCg.trans0 (FCg.fr (FCg.refl (rgf_0_2 hI hf).1) hf fr54 rfl) a4) v64p.2.2) hcs⟩) z.2.2.2⟩) (fun z => Or.inr ⟨z.1, ⟨by omega, hof70⟩, SumX.fr (z.2.2.mono (fun g y => Or.inr ⟨hco, y⟩)) fr65 rfl⟩))⟩
theorem f_99 {xs : Nat → Int} {Ln d : Nat} {T : List cK} {M : cM} (hT : TT T) (hI : Rng M) (h50 : M 5 0 = ((2 : Nat) : Int)) {f : Nat} (hf : fF f) (hG : Gm T M) {o k : Int} {s : Nat → Int} {n p : Int} (hA : LxA M s n p) (hL : o < 7 → Lf xs Ln d (o + 1)) (p0 : 0 ≤ o ∧ o ≤ 7) (p1 : 0 ≤ k) (p2 : M f 2 + k + 1 ≤ M 5 2) (p3 : owW s n p 486146048 = 1) : cC k_P xs Ln (d + 4) 99 [rf 4, rf f, (0, o)] (T, M) (qG T M fS_par 0 (fun v M1 => (v = 1 ∧ (M1 f 2 + k ≤ M1 5 2 ∧ (M1 5 3 = 0 ∨ M1 5 3 = 5 ∨ M1 f 2 + k + 1 ≤ M1 5 2)) ∧ (M f 2 + 1 ≤ M1 f 2 ∧ OFp f M M1) ∧ SumO M f M1 s n p 0 (fun c q => TlOk s n 3 o p c q)) ∨ (v = 0 ∧ (M1 f 2 + k ≤ M1 5 2 ∧ OFp f M M1) ∧ SumX M1 (fun g => TlX s n 3 o p g)))) := by
  show cP k_P xs Ln (d + 4) 99 0 [(0, rf 4), (1, rf f), (2, (0, o))] [] (T, M) _
  have hFm : Fr fS_par M M := Fr.refl
  have h51 := hA.2.1
  have h0 := hA.2.2.1
  have hpn := hA.2.2.2.1
  have h53 := hA.2.2.2.2.1
  have h55 := hA.2.2.2.2.2.1
  have h51r := rg_5_1 hI
  have h52 := rg_5_2 hI
  have h53r := rg_5_3 hI
  have hnt := p3
  have hnk := owW_Kn hnt
  refine s_iload_n kx_99_0 rfl ?_
  refine s_bipush (v := 7) kx_99_1 (by decide) ?_
  refine s_icmp_lt (t := 22) kx_99_3 (by decide) (fun hc1 => ?_) (fun hc1 => ?_)
  · refine s_aload_n kx_99_22 rfl ?_
    refine r_getR (k := 4) (f := 0) (k2 := 5) kx_99_23 kp_99_12 (tk_4 hT) kf_7_0 (by decide) (rq_4_0 hI) ?_
    refine s_callV2 (k := 5) (s1 := 1) (s2 := 0) (as := []) (rest := []) kx_99_26 kp_99_28 (Or.inl rfl) rfl (tk_5 hT) ki_26 kcl_26 rfl rfl (by decide) (f_26 (d := d + 1) hT hI h50 (LxA.nx hA (by omega) (by omega))) (kV (fun M3 hI3 fr3 v2p => ?_))
    have hFm3 := hFm.call fr3 rfl
    have tr4 := (fr3 f 2 (by rcases hf with rfl | rfl | rfl | rfl <;> rfl))
    have tr5 := rg_5_2 hI3
    have tr6 := rg_5_3 hI3
    have la7b := (v2p.1).2.1
    have la7c := (v2p.1).2.2.1
    have la7d := (v2p.1).2.2.2.1
    have la7e := (v2p.1).2.2.2.2.1
    have la7f := (v2p.1).2.2.2.2.2.1
    have la7z := owE_gt (s := s) (hA).2.2.2.1 (by omega)
    refine s_aload_n kx_99_29 rfl ?_
    refine s_aload_n kx_99_30 rfl ?_
    refine s_iload_n kx_99_31 rfl ?_
    refine s_iconst (v := 1) kx_99_32 (by decide) ?_
    refine r_add kx_99_33 ⟨by omega, by omega⟩ ?_
    refine s_callV2 (k := 4) (s1 := 3) (s2 := 0) (as := [(0, (o + 1)), rf f]) (rest := []) kx_99_34 kp_99_84 (Or.inl rfl) rfl (tk_4 hT) ki_98 kcl_98 rfl rfl (by decide) (cC.deep ((hL (by omega)).2.2 (k := k + 1) hT hI3 ((fr3 5 0 rfl).trans h50) hf (Gm.fr hG fr3 rfl) v2p.1 (by omega) (by omega)) (by omega)) (kG (fun v8 T9 M9 hT9 hI9 fr9 hG9 v8p => ?_))
    have hFm9 := hFm3.call fr9 rfl
    have tr10 := rg_5_2 hI9
    have tr11 := rg_5_3 hI9
    have hof12 := OFp.trans (OFp.fr (OFp.refl (M := M)) fr3 rfl) (v8p.elim (fun z => z.2.2.1.2) (fun z => z.2.1.2))
    refine s_istore_n kx_99_37 km_99_3 rfl ?_
    refine s_aload_n kx_99_38 rfl ?_
    refine s_bipush (v := (-19)) kx_99_39 (by decide) ?_
    refine s_callV2 (k := f) (s1 := 2) (s2 := 0) (as := [(0, (-19))]) (rest := []) kx_99_41 kp_99_31 (Or.inl rfl) rfl (tkf_0 hT9 hf) ki_10 kcl_10 rfl rfl (by decide) (f_10 (d := d + 1) (step := (-19)) hT9 hI9 hf hG9 (by omega)) (kGV (fun T14 M14 hT14 hI14 fr14 hG14 v13p => ?_))
    have hFm14 := hFm9.call fr14 rfl
    have tr15 := (fr14 5 2 rfl)
    have tr16 := (fr14 5 3 rfl)
    have tr17 := rg_5_2 hI14
    have tr18 := rg_5_3 hI14
    have hof19 := OFp.trans hof12 v13p.2.1
    refine s_iload_n kx_99_44 rfl ?_
    exact s_iret kx_99_45 (Or.inr ⟨kq_99, by omega⟩) ⟨_, _, _, rfl, rfl, hT14, hI14, hFm14, hG14, (v8p.elim (fun z => Or.inl ⟨z.1, ⟨by omega, by omega⟩, ⟨by omega, hof19⟩, (fun ⟨c, q, a1, a2, a3, a4⟩ => ⟨_, q, a1.fr fr14 rfl, by omega, ft_not hnt (by omega) a3, FCg.op (FCg.trans (FCg.trans0 (FCg.fr (FCg.refl (rgf_0_2 hI hf).1) hf fr3 rfl) a4) v13p.2.2) rfl⟩) z.2.2.2⟩) (fun z => Or.inr ⟨z.1, ⟨by omega, hof19⟩, SumX.fr (z.2.2.mono (fun g y => ft_notx hnt (by omega) y)) fr14 rfl⟩))⟩
  · refine s_aload_n kx_99_6 rfl ?_
    refine r_getR (k := 4) (f := 0) (k2 := 5) kx_99_7 kp_99_12 (tk_4 hT) kf_7_0 (by decide) (rq_4_0 hI) ?_
    refine s_iconst (v := 5) kx_99_10 (by decide) ?_
    refine s_aload_n kx_99_11 rfl ?_
    refine r_getR (k := 4) (f := 0) (k2 := 5) kx_99_12 kp_99_12 (tk_4 hT) kf_7_0 (by decide) (rq_4_0 hI) ?_
    refine r_getI (k := 5) (f := 5) kx_99_15 kp_99_96 (tk_5 hT) kf_3_5 (fun _ => rfl) (rg_5_5 hI) (fun v20 v20e v20a v20b => ?_)
    have hk21 : M 5 5 = v20 := v20e
    refine s_callV2 (k := 5) (s1 := 3) (s2 := 0) (as := [(0, v20), (0, 5)]) (rest := []) kx_99_18 kp_99_99 (Or.inl rfl) rfl (tk_5 hT) ki_20 kcl_20 rfl rfl (by decide) (f_20 (d := d + 3) (kind := 5) (place := v20) hT hI) (kW (fun v22 M23 hI23 fr23 v22p => ?_))
    have hFm23 := hFm.call fr23 rfl
    have tr24 := (fr23 5 2 rfl)
    have tr25 := (fr23 5 3 rfl)
    have tr26 := (fr23 f 2 (by rcases hf with rfl | rfl | rfl | rfl <;> rfl))
    have tr27 := rg_5_2 hI23
    have tr28 := rg_5_3 hI23
    exact s_iret kx_99_21 (Or.inr ⟨kq_99, by omega⟩) ⟨_, _, _, rfl, rfl, hT, hI23, hFm23, (Gm.fr hG fr23 rfl), (Or.inr ⟨by omega, ⟨by omega, (OFp.fr (OFp.refl (M := M)) fr23 rfl)⟩, (fun z => ⟨_, z.1, z.2, ft_not5 hnt (by omega)⟩) (LxA.fl hA (by omega) (by omega) (by omega) v22p.2.2 (by decide) (show 50000 + owB s n p = 10000 * 5 + owB s n p by omega))⟩)⟩
theorem f_98 {xs : Nat → Int} {Ln d : Nat} {T : List cK} {M : cM} (hT : TT T) (hI : Rng M) (h50 : M 5 0 = ((2 : Nat) : Int)) {f : Nat} (hf : fF f) (hG : Gm T M) {o k : Int} {s : Nat → Int} {n p : Int} (hA : LxA M s n p) (hL : o < 7 → Lf xs Ln d (o + 1)) (p0 : 0 ≤ o ∧ o ≤ 7) (p1 : 0 ≤ k) (p2 : M f 2 + k ≤ M 5 2 ∧ (M 5 3 = 0 ∨ M 5 3 = 5 ∨ M f 2 + k + 1 ≤ M 5 2)) : cC k_P xs Ln (d + 9) 98 [rf 4, rf f, (0, o)] (T, M) (qG T M fS_par 0 (fun v M1 => (v = 1 ∧ (M1 f 2 + k ≤ M1 5 2 ∧ (M1 5 3 = 0 ∨ M1 5 3 = 5 ∨ M1 f 2 + k + 1 ≤ M1 5 2)) ∧ (M f 2 + 1 ≤ M1 f 2 ∧ OFp f M M1) ∧ SumO M f M1 s n p 0 (fun c q => TlOk s n 3 o p c q)) ∨ (v = 0 ∧ (M1 f 2 + k ≤ M1 5 2 ∧ OFp f M M1) ∧ SumX M1 (fun g => TlX s n 3 o p g)))) := by
  show cP k_P xs Ln (d + 9) 98 0 [(0, rf 4), (1, rf f), (2, (0, o))] [] (T, M) _
  have hFm : Fr fS_par M M := Fr.refl
  have h51 := hA.2.1
  have h0 := hA.2.2.1
  have hpn := hA.2.2.2.1
  have h53 := hA.2.2.2.2.1
  have h55 := hA.2.2.2.2.2.1
  have h51r := rg_5_1 hI
  have h52 := rg_5_2 hI
  have h53r := rg_5_3 hI
  refine s_aload_n kx_98_0 rfl ?_
  refine r_getR (k := 4) (f := 0) (k2 := 5) kx_98_1 kp_98_12 (tk_4 hT) kf_7_0 (by decide) (rq_4_0 hI) ?_
  refine s_ldc kx_98_4 kp_98_88 ?_
  refine s_callV2 (k := 5) (s1 := 2) (s2 := 0) (as := [(0, 486146048)]) (rest := []) kx_98_6 kp_98_80 (Or.inl rfl) rfl (tk_5 hT) ki_22 kcl_22 rfl rfl (by decide) (f_22 (d := d + 8) (w := 486146048) hT hI hA) (kF (fun v1 v1p => ?_))
  refine s_if_eq (t := 19) kx_98_9 (by decide) (fun hc2 => ?_) (fun hc2 => ?_)
  · replace v1p := v1p.resolve_left (by omega)
    refine s_aload_n kx_98_19 rfl ?_
    refine r_getR (k := 4) (f := 0) (k2 := 5) kx_98_20 kp_98_12 (tk_4 hT) kf_7_0 (by decide) (rq_4_0 hI) ?_
    refine s_bipush (v := 91) kx_98_23 (by decide) ?_
    refine s_callV2 (k := 5) (s1 := 2) (s2 := 0) (as := [(0, 91)]) (rest := []) kx_98_25 kp_98_22 (Or.inl rfl) rfl (tk_5 hT) ki_23 kcl_23 rfl rfl (by decide) (f_23 (d := d + 8) (c := 91) hT hI hA) (kF (fun v3 v3p => ?_))
    refine s_if_eq (t := 70) kx_98_28 (by decide) (fun hc4 => ?_) (fun hc4 => ?_)
    · replace v3p := v3p.resolve_left (by omega)
      refine s_aload_n kx_98_70 rfl ?_
      refine r_getR (k := 4) (f := 0) (k2 := 5) kx_98_71 kp_98_12 (tk_4 hT) kf_7_0 (by decide) (rq_4_0 hI) ?_
      refine s_ldc kx_98_74 kp_98_92 ?_
      refine s_callV2 (k := 5) (s1 := 2) (s2 := 0) (as := [(0, 46530560)]) (rest := []) kx_98_76 kp_98_80 (Or.inl rfl) rfl (tk_5 hT) ki_22 kcl_22 rfl rfl (by decide) (f_22 (d := d + 8) (w := 46530560) hT hI hA) (kF (fun v5 v5p => ?_))
      refine s_if_eq (t := 89) kx_98_79 (by decide) (fun hc6 => ?_) (fun hc6 => ?_)
      · replace v5p := v5p.resolve_left (by omega)
        have hnf : nfp s n p := ⟨by omega, by omega, by omega⟩
        refine s_aload_n kx_98_89 rfl ?_
        refine s_aload_n kx_98_90 rfl ?_
        refine s_iload_n kx_98_91 rfl ?_
        refine s_callV2 (k := 4) (s1 := 3) (s2 := 0) (as := [(0, o), rf f]) (rest := []) kx_98_92 kp_98_56 (Or.inl rfl) rfl (tk_4 hT) ki_89 kcl_89 rfl rfl (by decide) (f_89 (d := d + 1) (o := o) (k := k) hT hI h50 hf hG hA (fun h => (hL h).deep (by omega)) (by omega) (by omega) (by omega)) (kG (fun v7 T8 M8 hT8 hI8 fr8 hG8 v7p => ?_))
        have hFm8 := hFm.call fr8 rfl
        have tr9 := rg_5_2 hI8
        have tr10 := rg_5_3 hI8
        have hof11 := OFp.trans (OFp.refl (M := M)) (v7p.elim (fun z => z.2.2.1.2) (fun z => z.2.1.2))
        refine s_if_eq (t := 111) kx_98_95 (by decide) (fun hc12 => ?_) (fun hc12 => ?_)
        · replace v7p := v7p.resolve_left (by omega)
          have hx13 : SumX M8 (fun g => TlX s n 3 o p g) := (v7p.2.2.mono (fun g z => ft_x1 hnf z))
          refine s_iconst (v := 0) kx_98_111 (by decide) ?_
          exact s_iret kx_98_112 (Or.inr ⟨kq_98, by omega⟩) ⟨_, _, _, rfl, rfl, hT8, hI8, hFm8, hG8, (Or.inr ⟨rfl, ⟨by omega, hof11⟩, hx13⟩)⟩
        · replace v7p := v7p.resolve_right (by omega)
          obtain ⟨c1, q1, q1l, q1p, q1o, q1g⟩ := v7p.2.2.2
          have hfg14 := FCg.trans0 (FCg.refl (rgf_0_2 hI hf).1) q1g
          have q1b := q1l.2.1
          have q1c := q1l.2.2.1
          have q1d := q1l.2.2.2.1
          have q1e := q1l.2.2.2.2.1
          have q1f := q1l.2.2.2.2.2.1
          refine s_aload_n kx_98_98 rfl ?_
          refine s_aload_n kx_98_99 rfl ?_
          refine s_iload_n kx_98_100 rfl ?_
          refine s_callV2 (k := 4) (s1 := 3) (s2 := 0) (as := [(0, o), rf f]) (rest := []) kx_98_101 kp_98_93 (Or.inl rfl) rfl (tk_4 hT8) ki_100 kcl_100 rfl rfl (by decide) (f_100 (d := d) (o := o) (k := k) hT8 hI8 ((fr8 5 0 rfl).trans h50) hf hG8 q1l (fun h => (hL h).deep (by omega)) (by omega) (by omega) (by omega)) (kG (fun v15 T16 M16 hT16 hI16 fr16 hG16 v15p => ?_))
          have hFm16 := hFm8.call fr16 rfl
          have tr17 := rg_5_2 hI16
          have tr18 := rg_5_3 hI16
          have hof19 := OFp.trans hof11 (v15p.elim (fun z => z.2.2.1.2) (fun z => z.2.1.2))
          refine s_if_eq (t := 111) kx_98_104 (by decide) (fun hc20 => ?_) (fun hc20 => ?_)
          · replace v15p := v15p.resolve_left (by omega)
            have hx21 : SumX M16 (fun g => TlX s n 3 o p g) := (v15p.2.2.mono (fun g z => z.elim (fun a => by rw [a.2]; exact ft_xc hnf q1o.1 q1o.2 a.1) (fun a => ft_x2 hnf q1o.1 a.1 a.2)))
            refine s_iconst (v := 0) kx_98_111 (by decide) ?_
            exact s_iret kx_98_112 (Or.inr ⟨kq_98, by omega⟩) ⟨_, _, _, rfl, rfl, hT16, hI16, hFm16, hG16, (Or.inr ⟨rfl, ⟨by omega, hof19⟩, hx21⟩)⟩
          · replace v15p := v15p.resolve_right (by omega)
            obtain ⟨c2, q2, q2l, q2p, q2o, q2g⟩ := v15p.2.2.2
            have hfg22 := FCg.trans hfg14 q2g
            have q2b := q2l.2.1
            have q2c := q2l.2.2.1
            have q2d := q2l.2.2.2.1
            have q2e := q2l.2.2.2.2.1
            have q2f := q2l.2.2.2.2.2.1
            obtain ⟨d2, rfl, q2o⟩ := q2o
            have ho23 : SumC M16 s n p 0 (fun c q => TlOk s n 3 o p c q) _ := ⟨_, q2l, by omega, ft_cmp hnf q1o.1 q2o.1 q2o.2.1 q2o.2.2⟩
            refine s_iconst (v := 1) kx_98_107 (by decide) ?_
            refine s_goto (t := 112) kx_98_108 (by decide) ?_
            exact s_iret kx_98_112 (Or.inr ⟨kq_98, by omega⟩) ⟨_, _, _, rfl, rfl, hT16, hI16, hFm16, hG16, (Or.inl ⟨rfl, ⟨by omega, by omega⟩, ⟨by omega, hof19⟩, (SumC.o ho23 hfg22)⟩)⟩
      · replace v5p := v5p.resolve_right (by omega)
        have hall : owW s n p 46530560 = 1 := by omega
        refine s_aload_n kx_98_82 rfl ?_
        refine s_aload_n kx_98_83 rfl ?_
        refine s_iconst (v := 1) kx_98_84 (by decide) ?_
        refine s_callV2 (k := 4) (s1 := 3) (s2 := 0) (as := [(0, 1), rf f]) (rest := []) kx_98_85 kp_98_49 (Or.inl rfl) rfl (tk_4 hT) ki_93 kcl_93 rfl rfl (by decide) (f_93 (d := d + 5) (step := 1) (k := k) hT hI h50 hf hG hA (by omega) (by omega) (by omega)) (kG (fun v24 T25 M25 hT25 hI25 fr25 hG25 v24p => ?_))
        have hFm25 := hFm.call fr25 rfl
        have tr26 := rg_5_2 hI25
        have tr27 := rg_5_3 hI25
        have hfg29 := FCg.trans0 (FCg.refl (rgf_0_2 hI hf).1) v24p.2.2.2.2
        have hof28 := OFp.trans (OFp.refl (M := M)) v24p.2.2.1.2
        exact s_iret kx_98_88 (Or.inr ⟨kq_98, by omega⟩) ⟨_, _, _, rfl, rfl, hT25, hI25, hFm25, hG25, (Or.inl ⟨v24p.1, v24p.2.1, ⟨by omega, hof28⟩, ⟨_, _, v24p.2.2.2.1, by omega, ft_all hall (by omega), hfg29⟩⟩)⟩
    · replace v3p := v3p.resolve_right (by omega)
      have hg91 : owG s n p 91 = 1 := by omega
      refine s_aload_n kx_98_31 rfl ?_
      refine s_bipush (v := 91) kx_98_32 (by decide) ?_
      refine s_iload_n kx_98_34 rfl ?_
      refine s_callV2 (k := 4) (s1 := 3) (s2 := 0) (as := [(0, o), (0, 91)]) (rest := []) kx_98_35 kp_98_52 (Or.inl rfl) rfl (tk_4 hT) ki_101 kcl_101 rfl rfl (by decide) (f_101 (d := d + 5) (c := 91) (o := o) hT hI h50 hA (by omega)) (kW (fun v30 M31 hI31 fr31 v30p => ?_))
      have hFm31 := hFm.call fr31 rfl
      have tr32 := (fr31 f 2 (by rcases hf with rfl | rfl | rfl | rfl <;> rfl))
      have tr33 := rg_5_2 hI31
      have tr34 := rg_5_3 hI31
      refine s_if_eq (t := 68) kx_98_38 (by decide) (fun hc35 => ?_) (fun hc35 => ?_)
      · replace v30p := v30p.resolve_left (by omega)
        have hx36 : SumX M31 (fun g => TlX s n 3 o p g) := (v30p.2.2.mono (fun g z => z.elim (fun a => absurd a.1 (by omega)) (fun a => by rw [a.2.2]; exact ft_sq5 a.1 (by omega))))
        refine s_iconst (v := 0) kx_98_68 (by decide) ?_
        exact s_iret kx_98_69 (Or.inr ⟨kq_98, by omega⟩) ⟨_, _, _, rfl, rfl, hT, hI31, hFm31, (Gm.fr hG fr31 rfl), (Or.inr ⟨rfl, ⟨by omega, (OFp.fr (OFp.refl (M := M)) fr31 rfl)⟩, hx36⟩)⟩
      · replace v30p := v30p.resolve_right (by omega)
        refine s_aload_n kx_98_41 rfl ?_
        refine s_aload_n kx_98_42 rfl ?_
        refine s_iload_n kx_98_43 rfl ?_
        refine s_iconst (v := 1) kx_98_44 (by decide) ?_
        refine r_add kx_98_45 ⟨by omega, by omega⟩ ?_
        refine s_callV2 (k := 4) (s1 := 3) (s2 := 0) (as := [(0, (o + 1)), rf f]) (rest := []) kx_98_46 kp_98_73 (Or.inl rfl) rfl (tk_4 hT) ki_96 kcl_96 rfl rfl (by decide) (cC.deep ((hL (by omega)).2.1 (k := k) hT hI31 ((fr31 5 0 rfl).trans h50) hf (Gm.fr hG fr31 rfl) v30p.2.2.2.2.2 (by omega) (by omega)) (by omega)) (kG (fun v37 T38 M38 hT38 hI38 fr38 hG38 v37p => ?_))
        have hFm38 := hFm31.call fr38 rfl
        have tr39 := rg_5_2 hI38
        have tr40 := rg_5_3 hI38
        have hof41 := OFp.trans (OFp.fr (OFp.refl (M := M)) fr31 rfl) (v37p.elim (fun z => z.2.2.1.2) (fun z => z.2.1.2))
        refine s_if_eq (t := 68) kx_98_49 (by decide) (fun hc42 => ?_) (fun hc42 => ?_)
        · replace v37p := v37p.resolve_left (by omega)
          have hx43 : SumX M38 (fun g => TlX s n 3 o p g) := (v37p.2.2.mono (fun g z => ft_sqx hg91 (by omega) z))
          refine s_iconst (v := 0) kx_98_68 (by decide) ?_
          exact s_iret kx_98_69 (Or.inr ⟨kq_98, by omega⟩) ⟨_, _, _, rfl, rfl, hT38, hI38, hFm38, hG38, (Or.inr ⟨rfl, ⟨by omega, hof41⟩, hx43⟩)⟩
        · replace v37p := v37p.resolve_right (by omega)
          obtain ⟨c1, q1, q1l, q1p, q1o, q1g⟩ := v37p.2.2.2
          have hfg44 := FCg.trans0 (FCg.fr (FCg.refl (rgf_0_2 hI hf).1) hf fr31 rfl) q1g
          have q1b := q1l.2.1
          have q1c := q1l.2.2.1
          have q1d := q1l.2.2.2.1
          have q1e := q1l.2.2.2.2.1
          have q1f := q1l.2.2.2.2.2.1
          refine s_aload_n kx_98_52 rfl ?_
          refine r_getR (k := 4) (f := 0) (k2 := 5) kx_98_53 kp_98_12 (tk_4 hT38) kf_7_0 (by decide) (rq_4_0 hI38) ?_
          refine s_bipush (v := 93) kx_98_56 (by decide) ?_
          refine s_callV2 (k := 5) (s1 := 2) (s2 := 0) (as := [(0, 93)]) (rest := []) kx_98_58 kp_98_59 (Or.inl rfl) rfl (tk_5 hT38) ki_24 kcl_24 rfl rfl (by decide) (f_24 (d := d + 5) (c := 93) hT38 hI38 ((fr38 5 0 rfl).trans ((fr31 5 0 rfl).trans h50)) q1l) (kW (fun v45 M46 hI46 fr46 v45p => ?_))
          have hFm46 := hFm38.call fr46 rfl
          have tr47 := (fr46 f 2 (by rcases hf with rfl | rfl | rfl | rfl <;> rfl))
          have tr48 := rg_5_2 hI46
          have tr49 := rg_5_3 hI46
          refine s_if_eq (t := 68) kx_98_61 (by decide) (fun hc50 => ?_) (fun hc50 => ?_)
          · replace v45p := v45p.resolve_left (by omega)
            have hx51 : SumX M46 (fun g => TlX s n 3 o p g) := (SumX.un v45p.2.2.1 (by omega) (ft_sqc hg91 (by omega) q1o.1 q1o.2 (by omega)))
            refine s_iconst (v := 0) kx_98_68 (by decide) ?_
            exact s_iret kx_98_69 (Or.inr ⟨kq_98, by omega⟩) ⟨_, _, _, rfl, rfl, hT38, hI46, hFm46, (Gm.fr hG38 fr46 rfl), (Or.inr ⟨rfl, ⟨by omega, (OFp.fr hof41 fr46 rfl)⟩, hx51⟩)⟩
          · replace v45p := v45p.resolve_right (by omega)
            have ho52 : SumC M46 s n p 0 (fun c q => TlOk s n 3 o p c q) _ := ⟨_, v45p.2.2.1, by omega, ft_sq hg91 (by omega) q1o.1 (by omega)⟩
            refine s_iconst (v := 1) kx_98_64 (by decide) ?_
            refine s_goto (t := 69) kx_98_65 (by decide) ?_
            exact s_iret kx_98_69 (Or.inr ⟨kq_98, by omega⟩) ⟨_, _, _, rfl, rfl, hT38, hI46, hFm46, (Gm.fr hG38 fr46 rfl), (Or.inl ⟨rfl, ⟨by omega, by omega⟩, ⟨by omega, (OFp.fr hof41 fr46 rfl)⟩, (SumC.o ho52 (FCg.fr hfg44 hf fr46 rfl))⟩)⟩
  · replace v1p := v1p.resolve_right (by omega)
    refine s_aload_n kx_98_12 rfl ?_
    refine s_aload_n kx_98_13 rfl ?_
    refine s_iload_n kx_98_14 rfl ?_
    refine s_callV2 (k := 4) (s1 := 3) (s2 := 0) (as := [(0, o), rf f]) (rest := []) kx_98_15 kp_98_89 (Or.inl rfl) rfl (tk_4 hT) ki_99 kcl_99 rfl rfl (by decide) (f_99 (d := d + 4) (o := o) (k := k) hT hI h50 hf hG hA (fun h => (hL h).deep (by omega)) (by omega) (by omega) (by omega) (by omega)) (kG (fun v53 T54 M54 hT54 hI54 fr54 hG54 v53p => ?_))
    have hFm54 := hFm.call fr54 rfl
    have tr55 := rg_5_2 hI54
    have tr56 := rg_5_3 hI54
    have hof57 := OFp.trans (OFp.refl (M := M)) (v53p.elim (fun z => z.2.2.1.2) (fun z => z.2.1.2))
    exact s_iret kx_98_18 (Or.inr ⟨kq_98, by omega⟩) ⟨_, _, _, rfl, rfl, hT54, hI54, hFm54, hG54, v53p⟩
