def ngR_260_m : List (Nat × Nat) := [(100, 99999), (101, 99999), (102, 99999), (63, 58), (63, 59), (63, 60), (63, 62), (63, 63), (63, 64), (91, 99999), (92, 99999), (93, 99999), (94, 99999), (95, 99999), (96, 99999), (97, 99999), (98, 99999), (99, 99999)]
theorem n_260 {xs : Nat → Int} {Ln d : Nat} {T : List cK} {M : cM} (hT : TT T) (hI : Rng M) {p r c : Int} {D S : cM} (hR : RR D S M) (hS : Sg M) {H : Nat → cM} {hc : Int} (hH : RH D H hc M) : cC k_P xs Ln (d + 6) 260 [rf 63, (0, p), (0, r), (0, c)] (T, M) (qW T M ngR_260_m 0 (fun v M1 => (((v = -1 ∧ pCg D S p r c = 0) ∧ RFn 2 (M 91) (M1 91)) ∧ RR D S M1 ∧ RH D H hc M1) ∨ (((pCg D S p r c = 1) ∧ R0n (M 91) (M1 91)) ∧ RR D (pMv D S p r c) M1 ∧ RH D (pPh S H) (pC1 hc) M1))) := by
  show cP k_P xs Ln (d + 6) 260 0 [(0, rf 63), (1, (0, p)), (2, (0, r)), (3, (0, c))] [] (T, M) _
  have hFm : Fr ngR_260_m M M := Fr.refl
  have hD := hR.2.1
  have hDr := hD.rg
  have hSW := hR.2.2.2.2
  refine s_aload_n kx_260_0 rfl ?_
  refine s_iload_n kx_260_1 rfl ?_
  refine s_iload_n kx_260_2 rfl ?_
  refine s_iload_n kx_260_3 rfl ?_
  refine s_callV2 (k := 63) (s1 := 4) (s2 := 0) (as := [(0, c), (0, r), (0, p)]) (rest := []) kx_260_4 kp_260_527 (Or.inl rfl) rfl (tk_63 hT) ki_253 kcl_253 rfl rfl (by decide) (g_253 (d := d) (p := p) (r := r) (c := c) hT hI hR) (kF (fun v1 v1p => ?_))
  refine s_if_ne (t := 16) kx_260_7 (by decide) (fun hc2 => ?_) (fun hc2 => ?_)
  · replace v1p := v1p.resolve_right (by omega)
    refine s_aload_n kx_260_16 rfl ?_
    refine s_callV2 (k := 63) (s1 := 1) (s2 := 0) (as := []) (rest := []) kx_260_17 kp_260_552 (Or.inl rfl) rfl (tk_63 hT) ki_227 kcl_227 rfl rfl (by decide) (g_227 (d := d + 4) hT hI hR hH) (kV (fun M4 hI4 fr4 v3p => ?_))
    have hFm4 := hFm.call fr4 rfl
    have hc5 := v3p.1
    have hc6 := v3p.2
    refine s_aload_n kx_260_20 rfl ?_
    refine s_iload_n kx_260_21 rfl ?_
    refine s_iload_n kx_260_22 rfl ?_
    refine s_iload_n kx_260_23 rfl ?_
    refine s_callV2 (k := 63) (s1 := 4) (s2 := 0) (as := [(0, c), (0, r), (0, p)]) (rest := []) kx_260_24 kp_260_555 (Or.inl rfl) rfl (tk_63 hT) ki_259 kcl_259 rfl rfl (by decide) (g_259 (d := d) (p := p) (r := r) (c := c) hT hI4 hc5 (hS.fr hFm4 rfl) hc6 (by omega) (by omega) (by omega) (by omega) (by omega) (by omega)) (kV (fun M8 hI8 fr8 v7p => ?_))
    have hFm8 := hFm4.call fr8 rfl
    have hc9 := v7p.1
    have hc10 := v7p.2
    refine s_aload_n kx_260_27 rfl ?_
    refine r_getR (k := 63) (f := 51) (k2 := 95) kx_260_28 kp_260_168 (tk_63 hT) kf_12_51 (by decide) (rq_63_51 hI8) ?_
    refine s_iload_n kx_260_31 rfl ?_
    refine r_aldU (k := 95) kx_260_32 (tk_95 hT) ⟨by omega, by omega⟩ (fun v11 v11e => ?_)
    exact s_iret kx_260_33 (Or.inl kq_260) ⟨_, _, rfl, rfl, hI8, hFm8, (Or.inr ⟨⟨by omega, (fun f => ((fr8 91 _ rfl).trans (fr4 91 _ rfl)))⟩, hc9, hc10⟩)⟩
  · replace v1p := v1p.resolve_left (by omega)
    refine s_aload_n kx_260_10 rfl ?_
    refine s_iconst (v := 2) kx_260_11 (by decide) ?_
    refine s_callV2 (k := 63) (s1 := 2) (s2 := 0) (as := [(0, 2)]) (rest := []) kx_260_12 kp_260_255 (Or.inl rfl) rfl (tk_63 hT) ki_218 kcl_218 rfl rfl (by decide) (n_218 (d := d + 5) (kind := 2) hT hI (by omega)) (kW (fun v12 M13 hI13 fr13 v12p => ?_))
    have hFm13 := hFm.call fr13 rfl
    have hc14 := (RR.fr hR fr13 rfl)
    have hc15 := (RH.fr hH hD.1 fr13 rfl)
    exact s_iret kx_260_15 (Or.inl kq_260) ⟨_, _, rfl, rfl, hI13, hFm13, (Or.inl ⟨⟨by omega, ((v12p.2.2).of (fun f => rfl) (fun f => rfl))⟩, hc14, hc15⟩)⟩
def ngR_262_m : List (Nat × Nat) := [(100, 99999), (101, 99999), (102, 99999), (63, 58), (63, 59), (63, 62), (63, 63), (63, 64), (91, 99999), (92, 99999), (93, 99999), (94, 99999), (95, 99999), (96, 99999), (97, 99999), (98, 99999), (99, 99999)]
theorem n_262 {xs : Nat → Int} {Ln d : Nat} {T : List cK} {M : cM} (hT : TT T) (hI : Rng M) {p n : Int} {D S : cM} (hR : RR D S M) (hS : Sg M) {H : Nat → cM} {hc : Int} (hH : RH D H hc M) : cC k_P xs Ln (d + 5) 262 [rf 63, (0, p), (0, n)] (T, M) (qW T M ngR_262_m 0 (fun v M1 => (((v = -1 ∧ ¬ (0 ≤ p ∧ p < D 0 1 ∧ 1 ≤ n ∧ n ≤ 999)) ∧ RFn 2 (M 91) (M1 91)) ∧ RR D S M1 ∧ RH D H hc M1) ∨ (((0 ≤ p ∧ p < D 0 1 ∧ 1 ≤ n ∧ n ≤ 999) ∧ R0n (M 91) (M1 91)) ∧ RR D S M1 ∧ RH D (pPh S H) (pC1 hc) M1))) := by
  show cP k_P xs Ln (d + 5) 262 0 [(0, rf 63), (1, (0, p)), (2, (0, n))] [] (T, M) _
  have hFm : Fr ngR_262_m M M := Fr.refl
  have hD := hR.2.1
  have hDr := hD.rg
  have hSW := hR.2.2.2.2
  refine s_aload_n kx_262_0 rfl ?_
  refine s_iload_n kx_262_1 rfl ?_
  refine s_callV2 (k := 63) (s1 := 2) (s2 := 0) (as := [(0, p)]) (rest := []) kx_262_2 kp_262_514 (Or.inl rfl) rfl (tk_63 hT) ki_221 kcl_221 rfl rfl (by decide) (g_221 (d := d + 4) (p := p) hT hI hR) (kF (fun v1 v1p => ?_))
  refine s_if_eq (t := 19) kx_262_5 (by decide) (fun hc2 => ?_) (fun hc2 => ?_)
  · replace v1p := v1p.resolve_left (by omega)
    refine s_aload_n kx_262_19 rfl ?_
    refine s_iconst (v := 2) kx_262_20 (by decide) ?_
    refine s_callV2 (k := 63) (s1 := 2) (s2 := 0) (as := [(0, 2)]) (rest := []) kx_262_21 kp_262_255 (Or.inl rfl) rfl (tk_63 hT) ki_218 kcl_218 rfl rfl (by decide) (n_218 (d := d + 4) (kind := 2) hT hI (by omega)) (kW (fun v3 M4 hI4 fr4 v3p => ?_))
    have hFm4 := hFm.call fr4 rfl
    have hc5 := (RR.fr hR fr4 rfl)
    have hc6 := (RH.fr hH hD.1 fr4 rfl)
    exact s_iret kx_262_24 (Or.inl kq_262) ⟨_, _, rfl, rfl, hI4, hFm4, (Or.inl ⟨⟨by omega, ((v3p.2.2).of (fun f => rfl) (fun f => rfl))⟩, hc5, hc6⟩)⟩
  · replace v1p := v1p.resolve_right (by omega)
    refine s_iload_n kx_262_8 rfl ?_
    refine s_iconst (v := 1) kx_262_9 (by decide) ?_
    refine s_sipush (v := 999) kx_262_10 (by decide) ?_
    refine s_callS2 (s1 := 3) (s2 := 0) (as := [(0, 999), (0, 1), (0, n)]) (rest := []) kx_262_13 kp_262_345 rfl kcl_172 rfl rfl (by decide) (m_172 (d := d + 4) (v_ := n) (least := 1) (most := 999) hT hI) (kF (fun v7 v7p => ?_))
    refine s_if_ne (t := 25) kx_262_16 (by decide) (fun hc8 => ?_) (fun hc8 => ?_)
    · replace v7p := v7p.resolve_right (by omega)
      refine s_aload_n kx_262_25 rfl ?_
      refine s_callV2 (k := 63) (s1 := 1) (s2 := 0) (as := []) (rest := []) kx_262_26 kp_262_552 (Or.inl rfl) rfl (tk_63 hT) ki_227 kcl_227 rfl rfl (by decide) (g_227 (d := d + 3) hT hI hR hH) (kV (fun M10 hI10 fr10 v9p => ?_))
      have hFm10 := hFm.call fr10 rfl
      have hc11 := v9p.1
      have hc12 := v9p.2
      refine s_aload_n kx_262_29 rfl ?_
      refine s_iload_n kx_262_30 rfl ?_
      refine s_iload_n kx_262_31 rfl ?_
      refine s_callV2 (k := 63) (s1 := 3) (s2 := 0) (as := [(0, n), (0, p)]) (rest := []) kx_262_32 kp_262_562 (Or.inl rfl) rfl (tk_63 hT) ki_261 kcl_261 rfl rfl (by decide) (g_261 (d := d) (p := p) (n := n) hT hI10 hc11 (hS.fr hFm10 rfl) (by omega) (by omega)) (kV (fun M14 hI14 fr14 v13p => ?_))
      have hFm14 := hFm10.call fr14 rfl
      have hc15 := v13p
      have hc16 := (RH.fr hc12 hD.1 fr14 rfl)
      refine s_aload_n kx_262_35 rfl ?_
      refine r_getR (k := 63) (f := 52) (k2 := 96) kx_262_36 kp_262_171 (tk_63 hT) kf_12_52 (by decide) (rq_63_52 hI14) ?_
      refine s_iload_n kx_262_39 rfl ?_
      refine r_aldU (k := 96) kx_262_40 (tk_96 hT) ⟨by omega, by omega⟩ (fun v17 v17e => ?_)
      exact s_iret kx_262_41 (Or.inl kq_262) ⟨_, _, rfl, rfl, hI14, hFm14, (Or.inr ⟨⟨by omega, (fun f => ((fr14 91 _ rfl).trans (fr10 91 _ rfl)))⟩, hc15, hc16⟩)⟩
    · replace v7p := v7p.resolve_left (by omega)
      refine s_aload_n kx_262_19 rfl ?_
      refine s_iconst (v := 2) kx_262_20 (by decide) ?_
      refine s_callV2 (k := 63) (s1 := 2) (s2 := 0) (as := [(0, 2)]) (rest := []) kx_262_21 kp_262_255 (Or.inl rfl) rfl (tk_63 hT) ki_218 kcl_218 rfl rfl (by decide) (n_218 (d := d + 4) (kind := 2) hT hI (by omega)) (kW (fun v18 M19 hI19 fr19 v18p => ?_))
      have hFm19 := hFm.call fr19 rfl
      have hc20 := (RR.fr hR fr19 rfl)
      have hc21 := (RH.fr hH hD.1 fr19 rfl)
      exact s_iret kx_262_24 (Or.inl kq_262) ⟨_, _, rfl, rfl, hI19, hFm19, (Or.inl ⟨⟨by omega, ((v18p.2.2).of (fun f => rfl) (fun f => rfl))⟩, hc20, hc21⟩)⟩
def ngR_263_m : List (Nat × Nat) := [(100, 99999), (101, 99999), (63, 58), (63, 59), (91, 99999), (92, 99999), (93, 99999), (94, 99999), (95, 99999), (96, 99999), (97, 99999), (98, 99999), (99, 99999)]
theorem n_263 {xs : Nat → Int} {Ln d : Nat} {T : List cK} {M : cM} (hT : TT T) (hI : Rng M) {p c : Int} {D S : cM} (hR : RR D S M) {H : Nat → cM} {hc : Int} (hH : RH D H hc M) : cC k_P xs Ln (d + 2) 263 [rf 63, (0, p), (0, c)] (T, M) (qW T M ngR_263_m 0 (fun v M1 => (((v = 0 ∧ pCm D S p c = 0) ∧ RFn 3 (M 91) (M1 91)) ∧ RR D S M1 ∧ RH D H hc M1) ∨ (((v = 1 ∧ pCm D S p c = 1) ∧ R0n (M 91) (M1 91)) ∧ RR D (c_up S 2 c.toNat 0) M1 ∧ RH D (pPh S H) (pC1 hc) M1))) := by
  show cP k_P xs Ln (d + 2) 263 0 [(0, rf 63), (1, (0, p)), (2, (0, c))] [] (T, M) _
  have hFm : Fr ngR_263_m M M := Fr.refl
  have hD := hR.2.1
  have hDr := hD.rg
  have hSW := hR.2.2.2.2
  refine s_aload_n kx_263_0 rfl ?_
  refine s_iload_n kx_263_1 rfl ?_
  refine s_callV2 (k := 63) (s1 := 2) (s2 := 0) (as := [(0, p)]) (rest := []) kx_263_2 kp_263_514 (Or.inl rfl) rfl (tk_63 hT) ki_221 kcl_221 rfl rfl (by decide) (g_221 (d := d + 1) (p := p) hT hI hR) (kF (fun v1 v1p => ?_))
  refine s_if_eq (t := 79) kx_263_5 (by decide) (fun hc2 => ?_) (fun hc2 => ?_)
  · replace v1p := v1p.resolve_left (by omega)
    refine s_iconst (v := 0) kx_263_79 (by decide) ?_
    refine s_istore_n kx_263_80 km_263_3 rfl ?_
    refine s_iload_n kx_263_81 rfl ?_
    refine s_if_ne (t := 99) kx_263_82 (by decide) (fun hc3 => absurd hc3 (by decide)) (fun hc3 => ?_)
    refine s_aload_n kx_263_85 rfl ?_
    refine s_iconst (v := 3) kx_263_86 (by decide) ?_
    refine s_callV2 (k := 63) (s1 := 2) (s2 := 0) (as := [(0, 3)]) (rest := []) kx_263_87 kp_263_255 (Or.inl rfl) rfl (tk_63 hT) ki_218 kcl_218 rfl rfl (by decide) (n_218 (d := d + 1) (kind := 3) hT hI (by omega)) (kW (fun v4 M5 hI5 fr5 v4p => ?_))
    have hFm5 := hFm.call fr5 rfl
    have hc6 := (RR.fr hR fr5 rfl)
    have hc7 := (RH.fr hH hD.1 fr5 rfl)
    refine s_if_lt (t := 97) kx_263_90 (by decide) (fun hc8 => ?_) (fun hc8 => absurd hc8 (by omega))
    refine s_iconst (v := 0) kx_263_97 (by decide) ?_
    exact s_iret kx_263_98 (Or.inr ⟨kq_263, by omega⟩) ⟨_, _, rfl, rfl, hI5, hFm5, (Or.inl ⟨⟨⟨by omega, by unfold pCm; exact if_neg (by omega)⟩, ((v4p.2.2).of (fun f => rfl) (fun f => rfl))⟩, hc6, hc7⟩)⟩
  · replace v1p := v1p.resolve_right (by omega)
    refine s_aload_n kx_263_8 rfl ?_
    refine s_iload_n kx_263_9 rfl ?_
    refine s_callV2 (k := 63) (s1 := 2) (s2 := 0) (as := [(0, c)]) (rest := []) kx_263_10 kp_263_514 (Or.inl rfl) rfl (tk_63 hT) ki_221 kcl_221 rfl rfl (by decide) (g_221 (d := d + 1) (p := c) hT hI hR) (kF (fun v9 v9p => ?_))
    refine s_if_eq (t := 79) kx_263_13 (by decide) (fun hc10 => ?_) (fun hc10 => ?_)
    · replace v9p := v9p.resolve_left (by omega)
      refine s_iconst (v := 0) kx_263_79 (by decide) ?_
      refine s_istore_n kx_263_80 km_263_3 rfl ?_
      refine s_iload_n kx_263_81 rfl ?_
      refine s_if_ne (t := 99) kx_263_82 (by decide) (fun hc11 => absurd hc11 (by decide)) (fun hc11 => ?_)
      refine s_aload_n kx_263_85 rfl ?_
      refine s_iconst (v := 3) kx_263_86 (by decide) ?_
      refine s_callV2 (k := 63) (s1 := 2) (s2 := 0) (as := [(0, 3)]) (rest := []) kx_263_87 kp_263_255 (Or.inl rfl) rfl (tk_63 hT) ki_218 kcl_218 rfl rfl (by decide) (n_218 (d := d + 1) (kind := 3) hT hI (by omega)) (kW (fun v12 M13 hI13 fr13 v12p => ?_))
      have hFm13 := hFm.call fr13 rfl
      have hc14 := (RR.fr hR fr13 rfl)
      have hc15 := (RH.fr hH hD.1 fr13 rfl)
      refine s_if_lt (t := 97) kx_263_90 (by decide) (fun hc16 => ?_) (fun hc16 => absurd hc16 (by omega))
      refine s_iconst (v := 0) kx_263_97 (by decide) ?_
      exact s_iret kx_263_98 (Or.inr ⟨kq_263, by omega⟩) ⟨_, _, rfl, rfl, hI13, hFm13, (Or.inl ⟨⟨⟨by omega, by unfold pCm; exact if_neg (by omega)⟩, ((v12p.2.2).of (fun f => rfl) (fun f => rfl))⟩, hc14, hc15⟩)⟩
    · replace v9p := v9p.resolve_right (by omega)
      refine s_aload_n kx_263_16 rfl ?_
      refine r_getR (k := 63) (f := 30) (k2 := 80) kx_263_17 kp_263_102 (tk_63 hT) kf_12_30 (by decide) (rq_63_30 hI) ?_
      refine s_aload_n kx_263_20 rfl ?_
      refine r_getI (k := 63) (f := 14) kx_263_21 kp_263_54 (tk_63 hT) kf_12_14 (fun _ => rfl) (rg_63_14 hI) (fun v17 v17e v17a v17b => ?_)
      refine r_aldU (k := 80) kx_263_24 (tk_80 hT) ⟨by omega, by omega⟩ (fun v18 v18e => ?_)
      have v18d : D 0 3 = v18 := by have h9 := (hR).1.2.2.2.1; rw [v17e] at h9; exact h9.symm.trans v18e
      refine s_iconst (v := (-1)) kx_263_25 (by decide) ?_
      refine s_icmp_eq (t := 79) kx_263_26 (by decide) (fun hc19 => ?_) (fun hc19 => ?_)
      · refine s_iconst (v := 0) kx_263_79 (by decide) ?_
        refine s_istore_n kx_263_80 km_263_3 rfl ?_
        refine s_iload_n kx_263_81 rfl ?_
        refine s_if_ne (t := 99) kx_263_82 (by decide) (fun hc20 => absurd hc20 (by decide)) (fun hc20 => ?_)
        refine s_aload_n kx_263_85 rfl ?_
        refine s_iconst (v := 3) kx_263_86 (by decide) ?_
        refine s_callV2 (k := 63) (s1 := 2) (s2 := 0) (as := [(0, 3)]) (rest := []) kx_263_87 kp_263_255 (Or.inl rfl) rfl (tk_63 hT) ki_218 kcl_218 rfl rfl (by decide) (n_218 (d := d + 1) (kind := 3) hT hI (by omega)) (kW (fun v21 M22 hI22 fr22 v21p => ?_))
        have hFm22 := hFm.call fr22 rfl
        have hc23 := (RR.fr hR fr22 rfl)
        have hc24 := (RH.fr hH hD.1 fr22 rfl)
        refine s_if_lt (t := 97) kx_263_90 (by decide) (fun hc25 => ?_) (fun hc25 => absurd hc25 (by omega))
        refine s_iconst (v := 0) kx_263_97 (by decide) ?_
        exact s_iret kx_263_98 (Or.inr ⟨kq_263, by omega⟩) ⟨_, _, rfl, rfl, hI22, hFm22, (Or.inl ⟨⟨⟨by omega, by unfold pCm; exact if_neg (by omega)⟩, ((v21p.2.2).of (fun f => rfl) (fun f => rfl))⟩, hc23, hc24⟩)⟩
      · refine s_aload_n kx_263_29 rfl ?_
        refine r_getR (k := 63) (f := 48) (k2 := 92) kx_263_30 kp_263_159 (tk_63 hT) kf_12_48 (by decide) (rq_63_48 hI) ?_
        refine s_iload_n kx_263_33 rfl ?_
        refine r_ald (k := 92) kx_263_34 (tk_92 hT) ⟨by omega, by omega⟩ (rg_92 hI (by omega)) (fun v26 v26e v26a v26b => ?_)
        have v26d := (RR.rm hR (p := p) ⟨by omega, by omega⟩ (by omega)).symm.trans v26e
        have v26w := (hR).2.2.2.2.at (p := p) ⟨by omega, by omega⟩
        refine s_aload_n kx_263_35 rfl ?_
        refine r_getR (k := 63) (f := 30) (k2 := 80) kx_263_36 kp_263_102 (tk_63 hT) kf_12_30 (by decide) (rq_63_30 hI) ?_
        refine s_aload_n kx_263_39 rfl ?_
        refine r_getK (k := 63) (f := 14) kx_263_40 kp_263_54 (tk_63 hT) kf_12_14 (fun _ => rfl) v17e ?_
        refine r_aldK (k := 80) kx_263_43 (tk_80 hT) ⟨by omega, by omega⟩ v18e ?_
        refine s_icmp_ne (t := 79) kx_263_44 (by decide) (fun hc27 => ?_) (fun hc27 => ?_)
        · refine s_iconst (v := 0) kx_263_79 (by decide) ?_
          refine s_istore_n kx_263_80 km_263_3 rfl ?_
          refine s_iload_n kx_263_81 rfl ?_
          refine s_if_ne (t := 99) kx_263_82 (by decide) (fun hc28 => absurd hc28 (by decide)) (fun hc28 => ?_)
          refine s_aload_n kx_263_85 rfl ?_
          refine s_iconst (v := 3) kx_263_86 (by decide) ?_
          refine s_callV2 (k := 63) (s1 := 2) (s2 := 0) (as := [(0, 3)]) (rest := []) kx_263_87 kp_263_255 (Or.inl rfl) rfl (tk_63 hT) ki_218 kcl_218 rfl rfl (by decide) (n_218 (d := d + 1) (kind := 3) hT hI (by omega)) (kW (fun v29 M30 hI30 fr30 v29p => ?_))
          have hFm30 := hFm.call fr30 rfl
          have hc31 := (RR.fr hR fr30 rfl)
          have hc32 := (RH.fr hH hD.1 fr30 rfl)
          refine s_if_lt (t := 97) kx_263_90 (by decide) (fun hc33 => ?_) (fun hc33 => absurd hc33 (by omega))
          refine s_iconst (v := 0) kx_263_97 (by decide) ?_
          exact s_iret kx_263_98 (Or.inr ⟨kq_263, by omega⟩) ⟨_, _, rfl, rfl, hI30, hFm30, (Or.inl ⟨⟨⟨by omega, by unfold pCm; exact if_neg (by omega)⟩, ((v29p.2.2).of (fun f => rfl) (fun f => rfl))⟩, hc31, hc32⟩)⟩
        · refine s_aload_n kx_263_47 rfl ?_
          refine r_getR (k := 63) (f := 49) (k2 := 93) kx_263_48 kp_263_162 (tk_63 hT) kf_12_49 (by decide) (rq_63_49 hI) ?_
          refine s_iload_n kx_263_51 rfl ?_
          refine r_ald (k := 93) kx_263_52 (tk_93 hT) ⟨by omega, by omega⟩ (rg_93 hI (by omega)) (fun v34 v34e v34a v34b => ?_)
          have v34d := (RR.ch hR (p := c) ⟨by omega, by omega⟩ (by omega)).symm.trans v34e
          have v34w := (hR).2.2.2.2.at (p := c) ⟨by omega, by omega⟩
          refine s_aload_n kx_263_53 rfl ?_
          refine r_getR (k := 63) (f := 30) (k2 := 80) kx_263_54 kp_263_102 (tk_63 hT) kf_12_30 (by decide) (rq_63_30 hI) ?_
          refine s_aload_n kx_263_57 rfl ?_
          refine r_getK (k := 63) (f := 14) kx_263_58 kp_263_54 (tk_63 hT) kf_12_14 (fun _ => rfl) v17e ?_
          refine r_aldK (k := 80) kx_263_61 (tk_80 hT) ⟨by omega, by omega⟩ v18e ?_
          refine s_icmp_ne (t := 79) kx_263_62 (by decide) (fun hc35 => ?_) (fun hc35 => ?_)
          · refine s_iconst (v := 0) kx_263_79 (by decide) ?_
            refine s_istore_n kx_263_80 km_263_3 rfl ?_
            refine s_iload_n kx_263_81 rfl ?_
            refine s_if_ne (t := 99) kx_263_82 (by decide) (fun hc36 => absurd hc36 (by decide)) (fun hc36 => ?_)
            refine s_aload_n kx_263_85 rfl ?_
            refine s_iconst (v := 3) kx_263_86 (by decide) ?_
            refine s_callV2 (k := 63) (s1 := 2) (s2 := 0) (as := [(0, 3)]) (rest := []) kx_263_87 kp_263_255 (Or.inl rfl) rfl (tk_63 hT) ki_218 kcl_218 rfl rfl (by decide) (n_218 (d := d + 1) (kind := 3) hT hI (by omega)) (kW (fun v37 M38 hI38 fr38 v37p => ?_))
            have hFm38 := hFm.call fr38 rfl
            have hc39 := (RR.fr hR fr38 rfl)
            have hc40 := (RH.fr hH hD.1 fr38 rfl)
            refine s_if_lt (t := 97) kx_263_90 (by decide) (fun hc41 => ?_) (fun hc41 => absurd hc41 (by omega))
            refine s_iconst (v := 0) kx_263_97 (by decide) ?_
            exact s_iret kx_263_98 (Or.inr ⟨kq_263, by omega⟩) ⟨_, _, rfl, rfl, hI38, hFm38, (Or.inl ⟨⟨⟨by omega, by unfold pCm; exact if_neg (by omega)⟩, ((v37p.2.2).of (fun f => rfl) (fun f => rfl))⟩, hc39, hc40⟩)⟩
          · refine s_aload_n kx_263_65 rfl ?_
            refine r_getR (k := 63) (f := 50) (k2 := 94) kx_263_66 kp_263_165 (tk_63 hT) kf_12_50 (by decide) (rq_63_50 hI) ?_
            refine s_iload_n kx_263_69 rfl ?_
            refine r_aldU (k := 94) kx_263_70 (tk_94 hT) ⟨by omega, by omega⟩ (fun v42 v42e => ?_)
            have v42d := (RR.br hR (p := c) ⟨by omega, by omega⟩ (by omega)).symm.trans v42e
            have v42w := (hR).2.2.2.2.at (p := c) ⟨by omega, by omega⟩
            refine s_iconst (v := 1) kx_263_71 (by decide) ?_
            refine s_icmp_ne (t := 79) kx_263_72 (by decide) (fun hc43 => ?_) (fun hc43 => ?_)
            · refine s_iconst (v := 0) kx_263_79 (by decide) ?_
              refine s_istore_n kx_263_80 km_263_3 rfl ?_
              refine s_iload_n kx_263_81 rfl ?_
              refine s_if_ne (t := 99) kx_263_82 (by decide) (fun hc44 => absurd hc44 (by decide)) (fun hc44 => ?_)
              refine s_aload_n kx_263_85 rfl ?_
              refine s_iconst (v := 3) kx_263_86 (by decide) ?_
              refine s_callV2 (k := 63) (s1 := 2) (s2 := 0) (as := [(0, 3)]) (rest := []) kx_263_87 kp_263_255 (Or.inl rfl) rfl (tk_63 hT) ki_218 kcl_218 rfl rfl (by decide) (n_218 (d := d + 1) (kind := 3) hT hI (by omega)) (kW (fun v45 M46 hI46 fr46 v45p => ?_))
              have hFm46 := hFm.call fr46 rfl
              have hc47 := (RR.fr hR fr46 rfl)
              have hc48 := (RH.fr hH hD.1 fr46 rfl)
              refine s_if_lt (t := 97) kx_263_90 (by decide) (fun hc49 => ?_) (fun hc49 => absurd hc49 (by omega))
              refine s_iconst (v := 0) kx_263_97 (by decide) ?_
              exact s_iret kx_263_98 (Or.inr ⟨kq_263, by omega⟩) ⟨_, _, rfl, rfl, hI46, hFm46, (Or.inl ⟨⟨⟨by omega, by unfold pCm; exact if_neg (by omega)⟩, ((v45p.2.2).of (fun f => rfl) (fun f => rfl))⟩, hc47, hc48⟩)⟩
            · refine s_iconst (v := 1) kx_263_75 (by decide) ?_
              refine s_goto (t := 80) kx_263_76 (by decide) ?_
              refine s_istore_n kx_263_80 km_263_3 rfl ?_
              refine s_iload_n kx_263_81 rfl ?_
              refine s_if_ne (t := 99) kx_263_82 (by decide) (fun hc50 => ?_) (fun hc50 => absurd hc50 (by decide))
              refine s_aload_n kx_263_99 rfl ?_
              refine s_callV2 (k := 63) (s1 := 1) (s2 := 0) (as := []) (rest := []) kx_263_100 kp_263_552 (Or.inl rfl) rfl (tk_63 hT) ki_227 kcl_227 rfl rfl (by decide) (g_227 (d := d) hT hI hR hH) (kV (fun M52 hI52 fr52 v51p => ?_))
              have hFm52 := hFm.call fr52 rfl
              have hc53 := v51p.1
              have hc54 := v51p.2
              refine s_aload_n kx_263_103 rfl ?_
              refine r_getR (k := 63) (f := 50) (k2 := 94) kx_263_104 kp_263_165 (tk_63 hT) kf_12_50 (by decide) (rq_63_50 hI52) ?_
              refine s_iload_n kx_263_107 rfl ?_
              refine s_iconst (v := 0) kx_263_108 (by decide) ?_
              refine r_ast (k := 94) kx_263_109 (tk_94 hT) ⟨by omega, by omega⟩ hI52 ru_94 (fun M55 hI55 u55 => ?_)
              have hFm55 := hFm52.up u55 rfl
              have hc56 := (RR.u2 hc53 u55 (p := c) ⟨by omega, by omega⟩ (by omega) (by omega))
              have hc57 := (RH.up hc54 hD.1 u55 (by omega))
              refine s_aload_n kx_263_110 rfl ?_
              refine s_iload_n kx_263_111 rfl ?_
              refine s_bipush (v := 30) kx_263_112 (by decide) ?_
              refine s_callV2 (k := 63) (s1 := 3) (s2 := 0) (as := [(0, 30), (0, p)]) (rest := []) kx_263_114 kp_263_542 (Or.inl rfl) rfl (tk_63 hT) ki_258 kcl_258 rfl rfl (by decide) (m_258 (d := d + 1) (p := p) (n := 30) hT hI55 (by omega)) (kV (fun M59 hI59 fr59 v58p => ?_))
              have hFm59 := hFm55.call fr59 rfl
              have hc60 := (RR.fr hc56 fr59 rfl)
              have hc61 := (RH.fr hc57 hD.1 fr59 rfl)
              refine s_iconst (v := 1) kx_263_117 (by decide) ?_
              exact s_iret kx_263_118 (Or.inr ⟨kq_263, by omega⟩) ⟨_, _, rfl, rfl, hI59, hFm59, (Or.inr ⟨⟨⟨by omega, by unfold pCm; exact if_pos (by omega)⟩, (fun f => ((fr59 91 _ rfl).trans ((u55.2 91 _ (by omega)).trans (fr52 91 _ rfl))))⟩, hc60, hc61⟩)⟩
def ngR_228_m : List (Nat × Nat) := [(100, 99999), (101, 99999), (63, 59), (91, 99999), (92, 99999), (93, 99999), (94, 99999), (95, 99999), (96, 99999), (97, 99999), (98, 99999), (99, 99999)]
theorem n_228 {xs : Nat → Int} {Ln d : Nat} {T : List cK} {M : cM} (hT : TT T) (hI : Rng M) {D S : cM} (hR : RR D S M) {H : Nat → cM} {hc : Int} (hH : RH D H hc M) : cC k_P xs Ln (d + 1) 228 [rf 63] (T, M) (qW T M ngR_228_m 0 (fun v M1 => (((v = 0 ∧ hc = 0) ∧ RFn 4 (M 91) (M1 91)) ∧ RR D S M1 ∧ RH D H hc M1) ∨ (((v = 1 ∧ hc ≠ 0) ∧ R0n (M 91) (M1 91)) ∧ RR D (pUn S (H 0)) M1 ∧ RH D (fun k => H (k + 1)) (hc - 1) M1))) := by
  show cP k_P xs Ln (d + 1) 228 0 [(0, rf 63)] [] (T, M) _
  have hFm : Fr ngR_228_m M M := Fr.refl
  have hD := hR.2.1
  have hDr := hD.rg
  have hSW := hR.2.2.2.2
  have hHc := hH.1
  have hrr := rg_63_58 hI
  refine s_aload_n kx_228_0 rfl ?_
  refine r_getI (k := 63) (f := 59) kx_228_1 kp_228_192 (tk_63 hT) kf_12_59 (fun _ => rfl) (rg_63_59 hI) (fun v1 v1e v1a v1b => ?_)
  refine s_if_ne (t := 21) kx_228_4 (by decide) (fun hc2 => ?_) (fun hc2 => ?_)
  · refine s_aload_n kx_228_21 rfl ?_
    refine s_dup kx_228_22 rfl ?_
    refine r_getK (k := 63) (f := 59) kx_228_23 kp_228_192 (tk_63 hT) kf_12_59 (fun _ => rfl) v1e ?_
    refine s_iconst (v := 1) kx_228_26 (by decide) ?_
    refine r_sub kx_228_27 ⟨by omega, by omega⟩ ?_
    refine r_put (k := 63) (f := 59) kx_228_28 kp_228_192 (tk_63 hT) kf_12_59 rfl (by decide) (by decide) hI (ru_63_59 (by omega) (by omega)) (fun M3 hI3 u3 => ?_)
    have hFm3 := hFm.up u3 rfl
    refine s_aload_n kx_228_31 rfl ?_
    refine s_iconst (v := 0) kx_228_32 (by decide) ?_
    refine s_aload_n kx_228_33 rfl ?_
    refine s_aload_n kx_228_34 rfl ?_
    refine r_getK (k := 63) (f := 59) kx_228_35 kp_228_192 (tk_63 hT) kf_12_59 (fun _ => rfl) u3.1 ?_
    refine s_callV2 (k := 63) (s1 := 2) (s2 := 2) (as := [(0, (v1 - 1))]) (rest := [(0, 0), rf 63]) kx_228_38 kp_228_449 (Or.inl rfl) rfl (tk_63 hT) ki_226 kcl_226 rfl rfl (by decide) (g_226 (d := d) (k := (v1 - 1)) hT hI3 (RR.up hR u3 (by omega)) (by omega)) (kF (fun v4 v4p => ?_))
    have v4q := v4p.2.2
    have v4f := (u3.2 63 58 (by omega))
    refine s_callV2 (k := 63) (s1 := 3) (s2 := 0) (as := [(0, v4), (0, 0)]) (rest := []) kx_228_41 kp_228_452 (Or.inl rfl) rfl (tk_63 hT) ki_224 kcl_224 rfl rfl (by decide) (g_224 (d := d) (to := 0) (from_ := v4) hT hI3 (by omega) (by omega) (zR_of92 hI3 (by omega)) (zR_of93 hI3 (by omega)) (by omega)) (kV (fun M6 hI6 fr6 v5p => ?_))
    have hFm6 := hFm3.call fr6 rfl
    refine s_iconst (v := 1) kx_228_44 (by decide) ?_
    exact s_iret kx_228_45 (Or.inr ⟨kq_228, by omega⟩) ⟨_, _, rfl, rfl, hI6, hFm6, (Or.inr ⟨⟨by omega, (fun f => ((fr6 91 _ rfl).trans (u3.2 91 _ (by omega))))⟩, RR.pop hR hH (by omega) (k0 := v4) (by omega) (fun x hx q hq => ((congrArg (M6 x) (by omega)).trans (((v5p x hx).1 q (by omega)).trans ((u3.2 x _ (by omega)).trans (rfl))))) ⟨(fr6 63 60 rfl).trans ((u3.2 63 60 (by omega)).trans (rfl)), (fr6 63 14 rfl).trans ((u3.2 63 14 (by omega)).trans (rfl))⟩ (fun k hk f => (fr6 k f (by simp at hk; rcases hk with rfl | rfl | rfl | rfl | rfl | rfl | rfl | rfl | rfl | rfl | rfl | rfl | rfl | rfl <;> rfl)).trans ((u3.2 k _ (by simp at hk; omega)).trans (rfl))), RH.pop hH hD.1 (by omega) ((fr6 63 58 rfl).trans ((u3.2 63 58 (by omega)).trans (rfl))) (by have h9 := ((fr6 63 59 rfl).trans u3.1); omega) (fun x hx f hf => (((v5p x hx).2 f (by omega)).trans ((u3.2 x f (by omega)).trans (rfl))))⟩)⟩
  · refine s_aload_n kx_228_7 rfl ?_
    refine s_iconst (v := 4) kx_228_8 (by decide) ?_
    refine s_callV2 (k := 63) (s1 := 2) (s2 := 0) (as := [(0, 4)]) (rest := []) kx_228_9 kp_228_255 (Or.inl rfl) rfl (tk_63 hT) ki_218 kcl_218 rfl rfl (by decide) (n_218 (d := d) (kind := 4) hT hI (by omega)) (kW (fun v7 M8 hI8 fr8 v7p => ?_))
    have hFm8 := hFm.call fr8 rfl
    refine s_if_lt (t := 19) kx_228_12 (by decide) (fun hc9 => ?_) (fun hc9 => absurd hc9 (by omega))
    refine s_iconst (v := 0) kx_228_19 (by decide) ?_
    exact s_iret kx_228_20 (Or.inr ⟨kq_228, by omega⟩) ⟨_, _, rfl, rfl, hI8, hFm8, (Or.inl ⟨⟨by omega, ((v7p.2.2).of (fun f => rfl) (fun f => rfl))⟩, (RR.fr hR fr8 rfl), (RH.fr hH hD.1 fr8 rfl)⟩)⟩
def ngR_267_m : List (Nat × Nat) := [(63, 60), (91, 99999)]
theorem n_267 {xs : Nat → Int} {Ln d : Nat} {T : List cK} {M : cM} (hT : TT T) (hI : Rng M) {v_ : Int} {D S : cM} (hR : RR D S M) {H : Nat → cM} {hc : Int} (hH : RH D H hc M) (p0 : v_ ≤ 2147483647) : cC k_P xs Ln (d + 1) 267 [rf 63, (0, v_)] (T, M) (qW T M ngR_267_m 0 (fun v M1 => (((v = 0 ∧ v_ < 0) ∧ RFn 5 (M 91) (M1 91)) ∧ RR D S M1 ∧ RH D H hc M1) ∨ (((v = 1 ∧ 0 ≤ v_) ∧ R0n (M 91) (M1 91)) ∧ RR D (c_up S 3 0 v_) M1 ∧ RH D H hc M1))) := by
  show cP k_P xs Ln (d + 1) 267 0 [(0, rf 63), (1, (0, v_))] [] (T, M) _
  have hFm : Fr ngR_267_m M M := Fr.refl
  have hD := hR.2.1
  have hDr := hD.rg
  have hSW := hR.2.2.2.2
  refine s_iload_n kx_267_0 rfl ?_
  refine s_if_ge (t := 18) kx_267_1 (by decide) (fun hc1 => ?_) (fun hc1 => ?_)
  · refine s_aload_n kx_267_18 rfl ?_
    refine s_iload_n kx_267_19 rfl ?_
    refine s_i2l kx_267_20 ?_
    refine r_put (k := 63) (f := 60) kx_267_21 kp_267_195 (tk_63 hT) kf_12_60 rfl (by decide) (by decide) hI (ru_63_60 (by omega) (by omega)) (fun M2 hI2 u2 => ?_)
    have hFm2 := hFm.up u2 rfl
    have hc3 := (RR.u3 hR u2)
    have hc4 := (RH.up hH hD.1 u2 (by omega))
    refine s_iconst (v := 1) kx_267_24 (by decide) ?_
    exact s_iret kx_267_25 (Or.inr ⟨kq_267, by omega⟩) ⟨_, _, rfl, rfl, hI2, hFm2, (Or.inr ⟨⟨by omega, (fun f => (u2.2 91 _ (by omega)))⟩, hc3, hc4⟩)⟩
  · refine s_aload_n kx_267_4 rfl ?_
    refine s_iconst (v := 5) kx_267_5 (by decide) ?_
    refine s_callV2 (k := 63) (s1 := 2) (s2 := 0) (as := [(0, 5)]) (rest := []) kx_267_6 kp_267_255 (Or.inl rfl) rfl (tk_63 hT) ki_218 kcl_218 rfl rfl (by decide) (n_218 (d := d) (kind := 5) hT hI (by omega)) (kW (fun v5 M6 hI6 fr6 v5p => ?_))
    have hFm6 := hFm.call fr6 rfl
    have hc7 := (RR.fr hR fr6 rfl)
    have hc8 := (RH.fr hH hD.1 fr6 rfl)
    refine s_if_lt (t := 16) kx_267_9 (by decide) (fun hc9 => ?_) (fun hc9 => absurd hc9 (by omega))
    refine s_iconst (v := 0) kx_267_16 (by decide) ?_
    exact s_iret kx_267_17 (Or.inr ⟨kq_267, by omega⟩) ⟨_, _, rfl, rfl, hI6, hFm6, (Or.inl ⟨⟨by omega, ((v5p.2.2).of (fun f => rfl) (fun f => rfl))⟩, hc7, hc8⟩)⟩
def ngR_266_l24 : List (Nat × Nat) := [(100, 99999), (101, 99999), (102, 99999), (63, 60), (63, 62), (63, 63), (63, 64), (92, 99999), (93, 99999), (94, 99999), (95, 99999), (96, 99999), (97, 99999), (98, 99999), (99, 99999)]
def ngR_266_l32 : List (Nat × Nat) := [(100, 99999), (101, 99999), (102, 99999), (63, 60), (63, 62), (63, 63), (63, 64), (92, 99999), (93, 99999), (94, 99999), (95, 99999), (96, 99999), (97, 99999), (98, 99999), (99, 99999)]
def ngR_266_m : List (Nat × Nat) := [(100, 99999), (101, 99999), (102, 99999), (63, 58), (63, 59), (63, 60), (63, 62), (63, 63), (63, 64), (91, 99999), (92, 99999), (93, 99999), (94, 99999), (95, 99999), (96, 99999), (97, 99999), (98, 99999), (99, 99999)]
theorem n_266 {xs : Nat → Int} {Ln d : Nat} {T : List cK} {M : cM} (hT : TT T) (hI : Rng M) {n : Int} {D S : cM} (hR : RR D S M) (hS : Sg M) {H : Nat → cM} {hc : Int} (hH : RH D H hc M) : cC k_P xs Ln (d + 7) 266 [rf 63, (0, n)] (T, M) (qW T M ngR_266_m 0 (fun v M1 => (((v = -1 ∧ ¬ (1 ≤ n ∧ n ≤ 30)) ∧ RFn 3 (M 91) (M1 91)) ∧ RR D S M1 ∧ RH D H hc M1) ∨ (((v = pDsB D S n.toNat ∧ (1 ≤ n ∧ n ≤ 30)) ∧ R0n (M 91) (M1 91)) ∧ RR D (pDs D S n.toNat) M1 ∧ RH D (pPh S H) (pC1 hc) M1))) := by
  show cP k_P xs Ln (d + 7) 266 0 [(0, rf 63), (1, (0, n))] [] (T, M) _
  have hFm : Fr ngR_266_m M M := Fr.refl
  have hD := hR.2.1
  have hDr := hD.rg
  have hSW := hR.2.2.2.2
  refine s_iload_n kx_266_0 rfl ?_
  refine s_iconst (v := 1) kx_266_1 (by decide) ?_
  refine s_bipush (v := 30) kx_266_2 (by decide) ?_
  refine s_callS2 (s1 := 3) (s2 := 0) (as := [(0, 30), (0, 1), (0, n)]) (rest := []) kx_266_4 kp_266_345 rfl kcl_172 rfl rfl (by decide) (m_172 (d := d + 6) (v_ := n) (least := 1) (most := 30) hT hI) (kF (fun v1 v1p => ?_))
  refine s_if_ne (t := 16) kx_266_7 (by decide) (fun hc2 => ?_) (fun hc2 => ?_)
  · replace v1p := v1p.resolve_right (by omega)
    refine s_aload_n kx_266_16 rfl ?_
    refine s_callV2 (k := 63) (s1 := 1) (s2 := 0) (as := []) (rest := []) kx_266_17 kp_266_552 (Or.inl rfl) rfl (tk_63 hT) ki_227 kcl_227 rfl rfl (by decide) (g_227 (d := d + 5) hT hI hR hH) (kV (fun M4 hI4 fr4 v3p => ?_))
    have hFm4 := hFm.call fr4 rfl
    have hc5 := v3p.1
    have hc6 := v3p.2
    refine s_iconst (v := 0) kx_266_20 (by decide) ?_
    refine s_istore_n kx_266_21 km_266_2 rfl ?_
    refine s_iconst (v := 0) kx_266_22 (by decide) ?_
    refine s_istore_n kx_266_23 km_266_3 rfl ?_
    have key10 : ∀ n11 : Nat, ∀ (x2_7 x3_8 : Int), ∀ M9 : cM, Rng M9 → Fr ngR_266_m M M9 → Fr ngR_266_l24 M4 M9 → (0 ≤ x2_7) → (x2_7 ≤ 240) → (0 ≤ x3_8) → (x3_8 ≤ 30) → (x2_7 = pDsB D S (x3_8).toNat) → (0 ≤ x2_7) → (x2_7 ≤ 8 * x3_8) → (x3_8 ≤ n) → (RR D (pDs D S (x3_8).toNat) M9) → (RH D (pPh S H) (pC1 hc) M9) → (2147483647 - x3_8).toNat < n11 → cP k_P xs Ln (d + 7) 266 24 [(0, rf 63), (1, (0, n)), (2, (0, x2_7)), (3, (0, x3_8))] [] (T, M9) (qW T M ngR_266_m 0 (fun v M1 => (((v = -1 ∧ ¬ (1 ≤ n ∧ n ≤ 30)) ∧ RFn 3 (M 91) (M1 91)) ∧ RR D S M1 ∧ RH D H hc M1) ∨ (((v = pDsB D S n.toNat ∧ (1 ≤ n ∧ n ≤ 30)) ∧ R0n (M 91) (M1 91)) ∧ RR D (pDs D S n.toNat) M1 ∧ RH D (pPh S H) (pC1 hc) M1))) := by
      intro n11
      induction n11 with
      | zero => intro x2_7 x3_8 M9 hI9 hFm9 fl9 i12 i13 i14 i15 i16 i17 i18 i19 i20 i21 hm22; exact absurd hm22 (Nat.not_lt_zero _)
      | succ n11 ih23 =>
        intro x2_7 x3_8 M9 hI9 hFm9 fl9 i12 i13 i14 i15 i16 i17 i18 i19 i20 i21 hm22
        refine s_iload_n kx_266_24 rfl ?_
        refine s_iload_n kx_266_25 rfl ?_
        refine s_icmp_ge (t := 75) kx_266_26 (by decide) (fun hc24 => ?_) (fun hc24 => ?_)
        · refine s_iload_n kx_266_75 rfl ?_
          exact s_iret kx_266_76 (Or.inl kq_266) ⟨_, _, rfl, rfl, hI9, hFm9, (by have hz : x3_8 = n := (by omega); rw [← hz]; exact Or.inr ⟨⟨⟨i16, by omega⟩, (fun f => ((fl9 91 _ rfl).trans (fr4 91 _ rfl)))⟩, i20, i21⟩)⟩
        · refine s_iconst (v := 0) kx_266_29 (by decide) ?_
          refine s_istore kx_266_30 km_266_4 rfl ?_
          have key28 : ∀ n29 : Nat, ∀ (x2_25 x4_26 : Int), ∀ M27 : cM, Rng M27 → Fr ngR_266_m M M27 → Fr ngR_266_l24 M4 M27 → Fr ngR_266_l32 M9 M27 → (0 ≤ x2_25) → (x2_25 ≤ 248) → (0 ≤ x4_26) → (x4_26 ≤ 8) → (x2_25 = pDsB D S (x3_8).toNat + pPpB D (pDs D S (x3_8).toNat) (x4_26).toNat) → (x2_25 ≤ 8 * x3_8 + x4_26) → (x4_26 ≤ D 0 1) → (RR D (pPp D (pDs D S (x3_8).toNat) (x4_26).toNat) M27) → (RH D (pPh S H) (pC1 hc) M27) → (2147483647 - x4_26).toNat < n29 → cP k_P xs Ln (d + 7) 266 32 [(0, rf 63), (1, (0, n)), (2, (0, x2_25)), (3, (0, x3_8)), (4, (0, x4_26))] [] (T, M27) (qW T M ngR_266_m 0 (fun v M1 => (((v = -1 ∧ ¬ (1 ≤ n ∧ n ≤ 30)) ∧ RFn 3 (M 91) (M1 91)) ∧ RR D S M1 ∧ RH D H hc M1) ∨ (((v = pDsB D S n.toNat ∧ (1 ≤ n ∧ n ≤ 30)) ∧ R0n (M 91) (M1 91)) ∧ RR D (pDs D S n.toNat) M1 ∧ RH D (pPh S H) (pC1 hc) M1))) := by
            intro n29
            induction n29 with
            | zero => intro x2_25 x4_26 M27 hI27 hFm27 hFl2427 fl27 i30 i31 i32 i33 i34 i35 i36 i37 i38 hm39; exact absurd hm39 (Nat.not_lt_zero _)
            | succ n29 ih40 =>
              intro x2_25 x4_26 M27 hI27 hFm27 hFl2427 fl27 i30 i31 i32 i33 i34 i35 i36 i37 i38 hm39
              refine s_iload kx_266_32 rfl ?_
              refine s_aload_n kx_266_34 rfl ?_
              refine r_getR (k := 63) (f := 19) (k2 := 69) kx_266_35 kp_266_69 (tk_63 hT) kf_12_19 (by decide) (rq_63_19 hI27) ?_
              refine s_aload_n kx_266_38 rfl ?_
              refine r_getI (k := 63) (f := 14) kx_266_39 kp_266_54 (tk_63 hT) kf_12_14 (fun _ => rfl) (rg_63_14 hI27) (fun v41 v41e v41a v41b => ?_)
              have v41z : M 63 14 = v41 := (((fl27 63 14 rfl).trans ((fl9 63 14 rfl).trans (fr4 63 14 rfl)))).symm.trans v41e
              refine r_ald (k := 69) kx_266_42 (tk_69 hT) ⟨by omega, by omega⟩ (rg_69 hI27) (fun v42 v42e v42a v42b => ?_)
              have v42d : D 0 1 = v42 := by have h9 := (i37).1.2.1; rw [v41e] at h9; exact h9.symm.trans v42e
              refine s_icmp_ge (t := 69) kx_266_43 (by decide) (fun hc43 => ?_) (fun hc43 => ?_)
              · refine r_iinc kx_266_69 rfl km_266_3 (by decide) ⟨by omega, by omega⟩ rfl ?_
                refine s_goto (t := 24) kx_266_72 (by decide) ?_
                have hds := pDs_S (D := D) (S := S) (x := x3_8) (by omega); have hz4 : x4_26 = D 0 1 := (by omega); have heq := i34; rw [hz4] at heq; have hc44 : RR D (pDs D S (x3_8 + 1).toNat) M27 := by rw [hds.1, ← hz4]; exact i37
                exact cP.wk (lS1 rfl (lS1 rfl (lS1 rfl (lS1 rfl lS0)))) (ih23 x2_25 (x3_8 + 1) M27 hI27 hFm27 hFl2427 (by omega) (by omega) (by omega) (by omega) (by omega) (by omega) (by omega) (by omega) hc44 i38 (by omega))
              · refine s_iload_n kx_266_46 rfl ?_
                refine s_aload_n kx_266_47 rfl ?_
                refine s_iload kx_266_48 rfl ?_
                refine s_callV2 (k := 63) (s1 := 2) (s2 := 1) (as := [(0, x4_26)]) (rest := [(0, x2_25)]) kx_266_50 kp_266_568 (Or.inl rfl) rfl (tk_63 hT) ki_265 kcl_265 rfl rfl (by decide) (g_265 (d := d) (p := x4_26) hT hI27 i37 (hS.fr hFm27 rfl) i38 (by omega) (by omega)) (kW (fun v45 M46 hI46 fr46 v45p => ?_))
                have hFm46 := hFm27.call fr46 rfl
                have hFl2446 := hFl2427.call fr46 rfl
                have hFl3246 := fl27.call fr46 rfl
                have hc47 := v45p.2.2.2.1
                have hc48 := v45p.2.2.2.2
                refine s_if_eq (t := 60) kx_266_53 (by decide) (fun hc49 => ?_) (fun hc49 => ?_)
                · refine s_iconst (v := 0) kx_266_60 (by decide) ?_
                  refine r_add kx_266_61 ⟨by omega, by omega⟩ ?_
                  refine s_istore_n kx_266_62 km_266_2 rfl ?_
                  refine r_iinc kx_266_63 rfl km_266_4 (by decide) ⟨by omega, by omega⟩ rfl ?_
                  refine s_goto (t := 32) kx_266_66 (by decide) ?_
                  have hpp := pPp_S (D := D) (S := (pDs D S (x3_8).toNat)) (x := x4_26) (by omega); have hc50 : RR D (pPp D (pDs D S (x3_8).toNat) (x4_26 + 1).toNat) M46 := by rw [hpp.1]; exact hc47
                  exact cP.wk (lS1 rfl (lS1 rfl (lS1 rfl (lS1 rfl (lS1 rfl lS0))))) (ih40 (x2_25 + 0) (x4_26 + 1) M46 hI46 hFm46 hFl2446 hFl3246 (by omega) (by omega) (by omega) (by omega) (by omega) (by omega) (by omega) hc50 hc48 (by omega))
                · refine s_iconst (v := 1) kx_266_56 (by decide) ?_
                  refine s_goto (t := 61) kx_266_57 (by decide) ?_
                  refine r_add kx_266_61 ⟨by omega, by omega⟩ ?_
                  refine s_istore_n kx_266_62 km_266_2 rfl ?_
                  refine r_iinc kx_266_63 rfl km_266_4 (by decide) ⟨by omega, by omega⟩ rfl ?_
                  refine s_goto (t := 32) kx_266_66 (by decide) ?_
                  have hpp := pPp_S (D := D) (S := (pDs D S (x3_8).toNat)) (x := x4_26) (by omega); have hc51 : RR D (pPp D (pDs D S (x3_8).toNat) (x4_26 + 1).toNat) M46 := by rw [hpp.1]; exact hc47
                  exact cP.wk (lS1 rfl (lS1 rfl (lS1 rfl (lS1 rfl (lS1 rfl lS0))))) (ih40 (x2_25 + 1) (x4_26 + 1) M46 hI46 hFm46 hFl2446 hFl3246 (by omega) (by omega) (by omega) (by omega) (by omega) (by omega) (by omega) hc51 hc48 (by omega))
          have hz1 : pPpB D (pDs D S (x3_8).toNat) (0 : Int).toNat = 0 := rfl
          exact cP.wk (lS1 rfl (lS1 rfl (lS1 rfl (lS1 rfl (lS1 rfl lS0))))) (key28 _ x2_7 0 M9 hI9 hFm9 fl9 Fr.refl (by omega) (by omega) (by omega) (by omega) (by omega) (by omega) (by omega) i20 i21 (Nat.lt_succ_self _))
    have hz0 : pDsB D S (0 : Int).toNat = 0 := rfl
    exact cP.wk (lS1 rfl (lS1 rfl (lS1 rfl (lS1 rfl lS0)))) (key10 _ 0 0 M4 hI4 hFm4 Fr.refl (by omega) (by omega) (by omega) (by omega) (by omega) (by omega) (by omega) (by omega) hc5 hc6 (Nat.lt_succ_self _))
  · replace v1p := v1p.resolve_left (by omega)
    refine s_aload_n kx_266_10 rfl ?_
    refine s_iconst (v := 3) kx_266_11 (by decide) ?_
    refine s_callV2 (k := 63) (s1 := 2) (s2 := 0) (as := [(0, 3)]) (rest := []) kx_266_12 kp_266_255 (Or.inl rfl) rfl (tk_63 hT) ki_218 kcl_218 rfl rfl (by decide) (n_218 (d := d + 6) (kind := 3) hT hI (by omega)) (kW (fun v52 M53 hI53 fr53 v52p => ?_))
    have hFm53 := hFm.call fr53 rfl
    have hc54 := (RR.fr hR fr53 rfl)
    have hc55 := (RH.fr hH hD.1 fr53 rfl)
    exact s_iret kx_266_15 (Or.inl kq_266) ⟨_, _, rfl, rfl, hI53, hFm53, (Or.inl ⟨⟨by omega, ((v52p.2.2).of (fun f => rfl) (fun f => rfl))⟩, hc54, hc55⟩)⟩
def ngR_293_m : List (Nat × Nat) := [(100, 99999), (101, 99999), (63, 1), (63, 59), (91, 99999), (92, 99999), (93, 99999), (94, 99999), (95, 99999), (96, 99999), (97, 99999), (98, 99999), (99, 99999)]
theorem n_293 {xs : Nat → Int} {Ln d : Nat} {T : List cK} {M : cM} (hT : TT T) (hI : Rng M) {D S : cM} (hR : RR D S M) {H : Nat → cM} {hc : Int} (hH : RH D H hc M) {s : Nat → Int} (hs : M 64 = s) : cC k_P xs Ln (d + 3) 293 [rf 63] (T, M) (qW T M ngR_293_m 0 (fun v M1 => ((((v = 1 ∧ pIm D s (M 63 1) = 1) ∧ R0n (M 91) (M1 91)) ∧ RR D (pOk s S (D 0 1)) M1 ∧ RH D H 0 M1) ∨ (((v = 0 ∧ pIm D s (M 63 1) = 0) ∧ RFn 5 (M 91) (M1 91)) ∧ RR D S M1 ∧ RH D H hc M1)) ∧ M1 63 1 = 0)) := by
  show cP k_P xs Ln (d + 3) 293 0 [(0, rf 63)] [] (T, M) _
  have hFm : Fr ngR_293_m M M := Fr.refl
  have hD := hR.2.1
  have hDr := hD.rg
  have hSW := hR.2.2.2.2
  refine s_aload_n kx_293_0 rfl ?_
  refine r_getI (k := 63) (f := 1) kx_293_1 kp_293_13 (tk_63 hT) kf_12_1 (fun _ => rfl) (rg_63_1 hI) (fun v1 v1e v1a v1b => ?_)
  refine s_istore_n kx_293_4 km_293_1 rfl ?_
  refine s_aload_n kx_293_5 rfl ?_
  refine s_iconst (v := 0) kx_293_6 (by decide) ?_
  refine r_put (k := 63) (f := 1) kx_293_7 kp_293_13 (tk_63 hT) kf_12_1 rfl (by decide) (by decide) hI (ru_63_1 (by omega) (by omega)) (fun M2 hI2 u2 => ?_)
  have hFm2 := hFm.up u2 rfl
  have hs0 : ∀ i, 0 ≤ s i := fun i => by rw [← hs]; exact (rg_64 hI).1
  refine s_aload_n kx_293_10 rfl ?_
  refine s_iload_n kx_293_11 rfl ?_
  refine s_callV2 (k := 63) (s1 := 2) (s2 := 0) (as := [(0, v1)]) (rest := []) kx_293_12 kp_293_621 (Or.inl rfl) rfl (tk_63 hT) ki_292 kcl_292 rfl rfl (by decide) (g_292 (d := d) (n := v1) hT hI2 (RR.up hR u2 (by omega)) (RH.up hH hD.1 u2 (by omega)) ((funext fun i => (u2.2 64 _ (by omega))).trans hs) (by omega)) (kW (fun v3 M4 hI4 fr4 v3p => ?_))
  have hFm4 := hFm2.call fr4 rfl
  have hco := v3p.1
  refine s_if_ne (t := 32) kx_293_15 (by decide) (fun hc5 => ?_) (fun hc5 => ?_)
  · refine s_aload_n kx_293_32 rfl ?_
    refine s_iconst (v := 0) kx_293_33 (by decide) ?_
    refine s_iconst (v := 1) kx_293_34 (by decide) ?_
    refine s_callV2 (k := 63) (s1 := 3) (s2 := 0) (as := [(0, 1), (0, 0)]) (rest := []) kx_293_35 kp_293_452 (Or.inl rfl) rfl (tk_63 hT) ki_224 kcl_224 rfl rfl (by decide) (g2_224 (d := d + 2) (to := 0) (from_ := 1) hT hI4 (by omega) (by omega) ((v3p.1).resolve_right (by omega)).2.2.2.1 ((v3p.1).resolve_right (by omega)).2.2.2.2 (by omega)) (kV (fun M7 hI7 fr7 v6p => ?_))
    have hFm7 := hFm4.call fr7 rfl
    have him := pIm_1 (D := D) (s := s) (n := v1) (by omega)
    have hc8 := RR.on v3p.2.1 ((v3p.1).resolve_right (by omega)).2.2.1 him.2.2.1 hs0 v6p.1 fr7 rfl
    refine s_aload_n kx_293_38 rfl ?_
    refine s_iconst (v := 0) kx_293_39 (by decide) ?_
    refine r_put (k := 63) (f := 59) kx_293_40 kp_293_192 (tk_63 hT) kf_12_59 rfl (by decide) (by decide) hI7 (ru_63_59 (by omega) (by omega)) (fun M9 hI9 u9 => ?_)
    have hFm9 := hFm7.up u9 rfl
    refine s_iconst (v := 1) kx_293_43 (by decide) ?_
    exact s_iret kx_293_44 (Or.inr ⟨kq_293, by omega⟩) ⟨_, _, rfl, rfl, hI9, hFm9, ⟨(Or.inl ⟨⟨(by rw [v1e]; omega), (fun f => ((u9.2 91 _ (by omega)).trans ((fr7 91 _ rfl).trans ((fr4 91 _ rfl).trans (u2.2 91 _ (by omega))))))⟩, (RR.up hc8 u9 (by omega)), RH.zero (u9.1)⟩), ((u9.2 63 1 (by omega)).trans ((fr7 63 1 rfl).trans ((fr4 63 1 rfl).trans u2.1)))⟩⟩
  · refine s_aload_n kx_293_18 rfl ?_
    refine s_iconst (v := 5) kx_293_19 (by decide) ?_
    refine s_callV2 (k := 63) (s1 := 2) (s2 := 0) (as := [(0, 5)]) (rest := []) kx_293_20 kp_293_255 (Or.inl rfl) rfl (tk_63 hT) ki_218 kcl_218 rfl rfl (by decide) (n_218 (d := d + 2) (kind := 5) hT hI4 (by omega)) (kW (fun v10 M11 hI11 fr11 v10p => ?_))
    have hFm11 := hFm4.call fr11 rfl
    refine s_if_lt (t := 30) kx_293_23 (by decide) (fun hc12 => ?_) (fun hc12 => absurd hc12 (by omega))
    refine s_iconst (v := 0) kx_293_30 (by decide) ?_
    exact s_iret kx_293_31 (Or.inr ⟨kq_293, by omega⟩) ⟨_, _, rfl, rfl, hI11, hFm11, ⟨(Or.inr ⟨⟨(by rw [v1e]; omega), ((v10p.2.2).of (fun f => ((fr4 91 _ rfl).trans (u2.2 91 _ (by omega)))) (fun f => rfl))⟩, (RR.fr v3p.2.1 fr11 rfl), (RH.fr v3p.2.2 hD.1 fr11 rfl)⟩), ((fr11 63 1 rfl).trans ((fr4 63 1 rfl).trans u2.1))⟩⟩
