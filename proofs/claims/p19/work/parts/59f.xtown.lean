def gS_121_l14 : List (Nat × Nat) := [(10, 99999), (11, 99999), (114, 99999), (12, 99999), (13, 99999), (14, 99999), (15, 99999), (16, 99999), (17, 99999), (18, 99999), (19, 1), (19, 2), (21, 99999), (22, 1), (22, 2), (24, 99999), (25, 0), (25, 1), (25, 2), (25, 3), (26, 99999), (27, 99999), (28, 99999), (29, 99999), (3, 2), (30, 99999), (31, 99999), (32, 99999), (33, 99999), (34, 99999), (35, 99999), (36, 1), (36, 2), (38, 99999), (39, 1), (39, 2), (41, 99999), (5, 2), (5, 3), (5, 4), (5, 5), (5, 6), (5, 7), (8, 0), (8, 1), (8, 2), (8, 3), (9, 99999)]
def gS_121_m : List (Nat × Nat) := [(10, 99999), (11, 99999), (114, 99999), (12, 99999), (13, 99999), (14, 99999), (15, 99999), (16, 99999), (17, 99999), (18, 99999), (19, 1), (19, 2), (21, 99999), (22, 1), (22, 2), (24, 99999), (25, 0), (25, 1), (25, 2), (25, 3), (26, 99999), (27, 99999), (28, 99999), (29, 99999), (3, 2), (30, 99999), (31, 99999), (32, 99999), (33, 99999), (34, 99999), (35, 99999), (36, 1), (36, 2), (38, 99999), (39, 1), (39, 2), (41, 99999), (5, 0), (5, 1), (5, 2), (5, 3), (5, 4), (5, 5), (5, 6), (5, 7), (8, 0), (8, 1), (8, 2), (8, 3), (9, 99999)]
theorem f_121 {xs : Nat → Int} {Ln d : Nat} {T : List cK} {M : cM} (hT : TT T) (hI : Rng M) {t : Nat} (ht : t = 8 ∨ t = 25) (hG : Gm T M) {uX : Nat} {WX : cM} (hux : uX = 8 ∧ t = 25 ∨ uX = 25 ∧ t = 8) (hKX : KT uX WX M) : cC k_P xs Ln (d + 86) 121 [rf 3, rf 1, rf t] (T, M) (qG T M gS_121_m 0 (fun v M1 => (∃ D0, DC D0 ∧ ((v = -1 ∧ RdX M1 (M 2) (M 1 1) D0) ∨ (0 ≤ v ∧ RdO M1 t (M 2) (M 1 1) v D0))) ∧ KT uX WX M1)) := by
  show cP k_P xs Ln (d + 86) 121 0 [(0, rf 3), (1, rf 1), (2, rf t)] [] (T, M) _
  have hFm : Fr gS_121_m M M := Fr.refl
  refine s_aload_n kx_121_0 rfl ?_
  refine s_callV2 (k := t) (s1 := 1) (s2 := 0) (as := []) (rest := []) kx_121_1 kp_121_27 (Or.inl rfl) rfl (tkt_0 hT ht) ki_105 kcl_105 rfl rfl (by decide) (f_105 (d := d + 84) hT hI ht hux hKX) (kV (fun M2 hI2 fr2 v1p => ?_))
  have hFm2 := hFm.call fr2 rfl
  have tr3 := (fr2 5 2 rfl)
  have tr4 := (fr2 5 3 rfl)
  have v1pk := v1p.2
  (replace v1p := v1p.1)
  have hGc := Gm.of hG (fun g hg => fr2 g 1 (by rcases hg with rfl | rfl | rfl | rfl <;> rfl)) v1p.2.2.2.2.2.2.2
  have hDC : DC (owD M2 t) := DC.of v1p.1 v1p.2.1 v1p.2.2.1 v1p.2.2.2.1 v1p.2.2.2.2.1 v1p.2.2.2.2.2.1 v1p.2.2.2.2.2.2.1
  refine s_aload_n kx_121_4 rfl ?_
  refine r_getR (k := 3) (f := 1) (k2 := 5) kx_121_5 kp_121_22 (tk_3 hT) kf_10_1 (by decide) (rq_3_1 hI2) ?_
  refine s_aload_n kx_121_8 rfl ?_
  refine s_callV2 (k := 5) (s1 := 2) (s2 := 0) (as := [rf 1]) (rest := []) kx_121_9 kp_121_32 (Or.inl rfl) rfl (tk_5 hT) ki_19 kcl_19 rfl rfl (by decide) (f_19 (d := d + 84) hT hI2) (kV (fun M6 hI6 fr6 v5p => ?_))
  have hFm6 := hFm2.call fr6 rfl
  have hP0 : LxP M6 (M 2) (M 1 1) 0 := LxP.begin (funext fun i => (fr6 2 i rfl).trans (fr2 2 i (by rcases ht with rfl | rfl <;> rfl))) (v5p.2.1.trans (fr2 1 1 (by rcases ht with rfl | rfl <;> rfl))) (rg_1_1 hI).1 v5p.2.2.1 v5p.2.2.2.1 v5p.2.2.2.2
  have hV0 : owD M6 t = owD M2 t := owD_fr rfl ht fr6 rfl
  have hI0 : RdI M6 t (M 2) (M 1 1) 0 (owD M2 t) := ⟨_, 0, hP0, Or.inl v5p.2.2.2.1, hV0, ⟨hDC.dw, hDC.td⟩, fun _ _ _ h => h⟩
  refine s_iconst (v := 0) kx_121_12 (by decide) ?_
  refine s_istore_n kx_121_13 km_121_3 rfl ?_
  have key9 : ∀ n10 : Nat, ∀ (x3_7 : Int), ∀ T8 : List cK, TT T8 → ∀ M8 : cM, Rng M8 → Fr gS_121_m M M8 → Fr gS_121_l14 M6 M8 → Gm T8 M8 → (0 ≤ x3_7) → (x3_7 ≤ 81) → (KT uX WX M8) → (x3_7 ≤ 80) → (RdI M8 t (M 2) (M 1 1) x3_7 (owD M2 t)) → (2147483647 - x3_7).toNat < n10 → cP k_P xs Ln (d + 86) 121 14 [(0, rf 3), (2, rf t), (3, (0, x3_7))] [] (T8, M8) (qG T M gS_121_m 0 (fun v M1 => (∃ D0, DC D0 ∧ ((v = -1 ∧ RdX M1 (M 2) (M 1 1) D0) ∨ (0 ≤ v ∧ RdO M1 t (M 2) (M 1 1) v D0))) ∧ KT uX WX M1)) := by
    intro n10
    induction n10 with
    | zero => intro x3_7 T8 hT8 M8 hI8 hFm8 fl8 hG8 i11 i12 i13 i14 i15 hm16; exact absurd hm16 (Nat.not_lt_zero _)
    | succ n10 ih17 =>
      intro x3_7 T8 hT8 M8 hI8 hFm8 fl8 hG8 i11 i12 i13 i14 i15 hm16
      obtain ⟨D, q, q1l, q1k, q1d, ⟨q1w, hTD⟩, q1r⟩ := i15
      have q1q := q1l.2.2.1; have q1n := q1l.2.2.2.2.2.1; have q16 := q1l.2.2.2.2.2.2.1; have q1b := q1l.2.1; have qbg := owB_ge (s := M 2) (n := M 1 1) (p := q); have h11 := rg_1_1 hI
      refine s_iload_n kx_121_14 rfl ?_
      refine s_bipush (v := 80) kx_121_15 (by decide) ?_
      refine s_icmp_gt (t := 102) kx_121_17 (by decide) (fun hc18 => ?_) (fun hc18 => ?_)
      · exact absurd q1n (by omega)
      · refine s_aload_n kx_121_20 rfl ?_
        refine r_getR (k := 3) (f := 1) (k2 := 5) kx_121_21 kp_121_22 (tk_3 hT8) kf_10_1 (by decide) (rq_3_1 hI8) ?_
        refine s_callV2 (k := 5) (s1 := 1) (s2 := 0) (as := []) (rest := []) kx_121_24 kp_121_38 (Or.inl rfl) rfl (tk_5 hT8) ki_25 kcl_25 rfl rfl (by decide) (f_25 (d := d + 85) hT8 hI8 ((fl8 5 0 rfl).trans v5p.1) q1l.1 q1l.2.1 q1l.mid) (kW (fun v19 M20 hI20 fr20 v19p => ?_))
        have hFm20 := hFm8.call fr20 rfl
        have hFl1420 := fl8.call fr20 rfl
        have tr21 := (fr20 5 3 rfl)
        have hat := v19p.1
        have hat2 := v19p.2
        refine s_if_eq (t := 32) kx_121_27 (by decide) (fun hc22 => ?_) (fun hc22 => ?_)
        · refine s_iload_n kx_121_32 rfl ?_
          refine s_bipush (v := 80) kx_121_33 (by decide) ?_
          refine s_icmp_ne (t := 57) kx_121_35 (by decide) (fun hc23 => ?_) (fun hc23 => ?_)
          · refine s_aload_n kx_121_57 rfl ?_
            refine r_getR (k := 3) (f := 1) (k2 := 5) kx_121_58 kp_121_22 (tk_3 hT8) kf_10_1 (by decide) (rq_3_1 hI20) ?_
            refine s_callV2 (k := 5) (s1 := 1) (s2 := 0) (as := []) (rest := []) kx_121_61 kp_121_49 (Or.inl rfl) rfl (tk_5 hT8) ki_26 kcl_26 rfl rfl (by decide) (f_26 (d := d + 83) hT8 hI20 ((fr20 5 0 rfl).trans ((fl8 5 0 rfl).trans v5p.1)) (LxP.at4 q1l q1k (funext fun i => fr20 2 i rfl) (fun i hi => fr20 5 i (by unfold gS_25_m; simp [c_in]; omega)) hat)) (kV (fun M25 hI25 fr25 v24p => ?_))
            have hFm25 := hFm20.call fr25 rfl
            have hFl1425 := hFl1420.call fr25 rfl
            refine s_aload_n kx_121_64 rfl ?_
            refine s_aload_n kx_121_65 rfl ?_
            refine s_callV2 (k := 3) (s1 := 2) (s2 := 0) (as := [rf t]) (rest := []) kx_121_66 kp_121_52 (Or.inl rfl) rfl (tk_3 hT8) ki_122 kcl_122 rfl rfl (by decide) (f_122 (d := d) hT8 hI25 ht ((fr25 5 0 rfl).trans ((fr20 5 0 rfl).trans ((fl8 5 0 rfl).trans v5p.1))) (Gm.fr (Gm.fr hG8 fr20 rfl) fr25 rfl) v24p.1 (owD_fr (owD_fr q1d ht fr20 rfl) ht fr25 rfl) q1w hTD hux (KT.fr (KT.fr i13 fr20 ht hux rfl) fr25 ht hux rfl)) (kG (fun v26 T27 M27 hT27 hI27 fr27 hG27 v26p => ?_))
            have hFm27 := hFm25.call fr27 rfl
            have hFl1427 := hFl1425.call fr27 rfl
            have v26pk := v26p.2
            (replace v26p := v26p.1)
            refine s_if_ne (t := 74) kx_121_69 (by decide) (fun hc28 => ?_) (fun hc28 => ?_)
            · replace v26p := v26p.resolve_right (by omega)
              obtain ⟨D2, q2, q2l, q2d, ⟨q2w, q2t⟩, q2p, q2k, q2x⟩ := v26p.2
              refine s_aload_n kx_121_74 rfl ?_
              refine r_getR (k := 3) (f := 1) (k2 := 5) kx_121_75 kp_121_22 (tk_3 hT27) kf_10_1 (by decide) (rq_3_1 hI27) ?_
              refine s_bipush (v := 59) kx_121_78 (by decide) ?_
              refine s_callV2 (k := 5) (s1 := 2) (s2 := 0) (as := [(0, 59)]) (rest := []) kx_121_80 kp_121_56 (Or.inl rfl) rfl (tk_5 hT27) ki_23 kcl_23 rfl rfl (by decide) (f_23 (d := d + 85) (c := 59) hT27 hI27 q2l) (kF (fun v29 v29p => ?_))
              refine s_if_ne (t := 96) kx_121_83 (by decide) (fun hc30 => ?_) (fun hc30 => ?_)
              · replace v29p := v29p.resolve_right (by omega)
                refine r_iinc kx_121_96 rfl km_121_3 (by decide) ⟨by omega, by omega⟩ rfl ?_
                refine s_goto (t := 14) kx_121_99 (by decide) ?_
                exact cP.wk (lS1 rfl (lS1 rfl (lS1 rfl lS0))) (ih17 (x3_7 + 1) T27 hT27 M27 hI27 hFm27 hFl1427 hG27 (by omega) (by omega) v26pk (by omega) ⟨D2, owE (M 2) (M 1 1) q2, LxA.nx q2l (by omega) (by omega), Or.inr (by have := (q2l).2.2.2.2.1; omega), q2d, ⟨q2w, q2t⟩, fun f N D3 h3 => q1r f N D3 (by rw [(show (81 - x3_7).toNat = (80 - x3_7).toNat + 1 by omega)]; exact rd_s (fun z => by have := owK0.mp z; omega) (by omega) (q2k (by omega)) (by rw [show (80 - x3_7).toNat = (81 - (x3_7 + 1)).toNat by omega]; exact h3))⟩ (by omega))
              · replace v29p := v29p.resolve_left (by omega)
                refine s_aload_n kx_121_86 rfl ?_
                refine r_getR (k := 3) (f := 1) (k2 := 5) kx_121_87 kp_121_22 (tk_3 hT27) kf_10_1 (by decide) (rq_3_1 hI27) ?_
                refine s_callV2 (k := 5) (s1 := 1) (s2 := 0) (as := []) (rest := []) kx_121_90 kp_121_60 (Or.inl rfl) rfl (tk_5 hT27) ki_21 kcl_21 rfl rfl (by decide) (f_21 (d := d + 84) hT27 hI27) (kW (fun v31 M32 hI32 fr32 v31p => ?_))
                have hFm32 := hFm27.call fr32 rfl
                have hFl1432 := hFl1427.call fr32 rfl
                have tr33 := (fr32 5 2 rfl)
                have tr34 := (fr32 5 3 rfl)
                refine s_pop kx_121_93 rfl ?_
                refine s_iconst (v := (-1)) kx_121_94 (by decide) ?_
                exact s_iret kx_121_95 (Or.inl kq_121) ⟨_, _, _, rfl, rfl, hT27, hI32, hFm32, (Gm.fr hG27 fr32 rfl), ⟨⟨_, hDC, Or.inl ⟨rfl, ⟨_, (by have := owU_pos (s := M 2) (n := M 1 1) (p := q2) q2l.2.2.1; omega), LxA.un q2l (by omega) v31p.2.2, fun N D2 => q1r _ _ _ (by rw [(show (81 - x3_7).toNat = (80 - x3_7).toNat + 1 by omega)]; exact rd_x (fun z => by have := owK0.mp z; omega) (by omega) (by have := owU_pos (s := M 2) (n := M 1 1) (p := q2) q2l.2.2.1; omega) (q2x (by omega) D 0))⟩⟩⟩, (KT.fr v26pk fr32 ht hux rfl)⟩⟩
            · replace v26p := v26p.resolve_left (by omega)
              refine s_iconst (v := (-1)) kx_121_72 (by decide) ?_
              exact s_iret kx_121_73 (Or.inl kq_121) ⟨_, _, _, rfl, rfl, hT27, hI27, hFm27, hG27, ⟨⟨_, hDC, Or.inl ⟨rfl, (fun ⟨g, a1, a2, a3⟩ => ⟨g, a1, a2, fun N D2 => q1r _ _ _ (by rw [(show (81 - x3_7).toNat = (80 - x3_7).toNat + 1 by omega)]; exact rd_x (fun z => by have := owK0.mp z; omega) (by omega) a1 (a3 D 0))⟩) v26p.2⟩⟩, v26pk⟩⟩
          · refine s_aload_n kx_121_38 rfl ?_
            refine r_getR (k := 3) (f := 1) (k2 := 5) kx_121_39 kp_121_22 (tk_3 hT8) kf_10_1 (by decide) (rq_3_1 hI20) ?_
            refine s_bipush (v := 6) kx_121_42 (by decide) ?_
            refine s_aload_n kx_121_44 rfl ?_
            refine r_getR (k := 3) (f := 1) (k2 := 5) kx_121_45 kp_121_22 (tk_3 hT8) kf_10_1 (by decide) (rq_3_1 hI20) ?_
            refine r_getI (k := 5) (f := 2) kx_121_48 kp_121_42 (tk_5 hT8) kf_3_2 (fun _ => rfl) (rg_5_2 hI20) (fun v35 v35e v35a v35b => ?_)
            have hf6 : M20 5 6 = 0 := ((fr20 5 6 rfl).trans q16)
            have hk36 : M20 5 2 = v35 := v35e
            refine s_callV2 (k := 5) (s1 := 3) (s2 := 0) (as := [(0, v35), (0, 6)]) (rest := []) kx_121_51 kp_121_45 (Or.inl rfl) rfl (tk_5 hT8) ki_20 kcl_20 rfl rfl (by decide) (f_20 (d := d + 85) (kind := 6) (place := v35) hT8 hI20) (kW (fun v37 M38 hI38 fr38 v37p => ?_))
            have hFm38 := hFm20.call fr38 rfl
            have hFl1438 := hFl1420.call fr38 rfl
            have tr39 := (fr38 5 2 rfl)
            have tr40 := (fr38 5 3 rfl)
            refine s_pop kx_121_54 rfl ?_
            refine s_iconst (v := (-1)) kx_121_55 (by decide) ?_
            exact s_iret kx_121_56 (Or.inl kq_121) ⟨_, _, _, rfl, rfl, hT8, hI38, hFm38, (Gm.fr (Gm.fr hG8 fr20 rfl) fr38 rfl), ⟨⟨_, hDC, Or.inl ⟨rfl, ⟨60000 + owB (M 2) (M 1 1) q, by omega, ⟨by omega, by omega, by omega, by omega⟩, fun N D2 => q1r _ _ _ (by rw [(show (81 - x3_7).toNat = (80 - x3_7).toNat + 1 by omega), show x3_7 = 80 by omega]; exact rd_80 (fun z => by have := owK0.mp z; omega))⟩⟩⟩, (KT.fr (KT.fr i13 fr20 ht hux rfl) fr38 ht hux rfl)⟩⟩
        · refine s_iload_n kx_121_30 rfl ?_
          exact s_iret kx_121_31 (Or.inl kq_121) ⟨_, _, _, rfl, rfl, hT8, hI20, hFm20, (Gm.fr hG8 fr20 rfl), ⟨⟨_, hDC, Or.inr ⟨by omega, ⟨((fr20 5 6 rfl).trans q16), D, (owD_fr q1d ht fr20 rfl), ⟨q1w, hTD⟩, q1r _ _ _ (by rw [(show (81 - x3_7).toNat = (80 - x3_7).toNat + 1 by omega)]; exact rd_end (owK0.mpr (by omega)))⟩⟩⟩, (KT.fr i13 fr20 ht hux rfl)⟩⟩
  exact cP.wk (lS1 rfl (lS1 rfl (lS1 rfl lS0))) (key9 _ 0 T hT M6 hI6 hFm6 Fr.refl (Gm.fr hGc fr6 rfl) (by omega) (by omega) (KT.fr v1pk fr6 ht hux rfl) (by omega) hI0 (Nat.lt_succ_self _))
def gS_138_m : List (Nat × Nat) := [(0, 10), (0, 11), (1, 1), (10, 99999), (11, 99999), (114, 99999), (12, 99999), (13, 99999), (14, 99999), (15, 99999), (16, 99999), (17, 99999), (18, 99999), (19, 1), (19, 2), (21, 99999), (22, 1), (22, 2), (24, 99999), (25, 0), (25, 1), (25, 2), (25, 3), (26, 99999), (27, 99999), (28, 99999), (29, 99999), (3, 2), (30, 99999), (31, 99999), (32, 99999), (33, 99999), (34, 99999), (35, 99999), (36, 1), (36, 2), (38, 99999), (39, 1), (39, 2), (41, 99999), (42, 99999), (44, 2), (5, 0), (5, 1), (5, 2), (5, 3), (5, 4), (5, 5), (5, 6), (5, 7), (51, 2), (54, 6), (61, 99999), (7, 0), (7, 1), (8, 0), (8, 1), (8, 2), (8, 3), (9, 99999)]
theorem f_138 {xs : Nat → Int} {Ln d : Nat} {T : List cK} {M : cM} (hT : TT T) (hI : Rng M) (hG : Gm T M) {t u : Nat} (ht : t = 8 ∨ t = 25) (hu : u = 8 ∨ u = 25) (h71 : M 7 1 = ((t : Nat) : Int)) (h7u : M 7 0 = ((u : Nat) : Int)) (hux : u = 8 ∧ t = 25 ∨ u = 25 ∧ t = 8) : cC k_P xs Ln (d + 87) 138 [rf 0] (T, M) (qG T M gS_138_m 0 (fun v M1 => (M1 7 0 = ((t : Nat) : Int) ∧ M1 7 1 = ((u : Nat) : Int) ∨ M1 7 0 = ((u : Nat) : Int) ∧ M1 7 1 = ((t : Nat) : Int)) ∧ M1 1 1 = 0 ∧ TwX t u M M1 v)) := by
  show cP k_P xs Ln (d + 87) 138 0 [(0, rf 0)] [] (T, M) _
  have hFm : Fr gS_138_m M M := Fr.refl
  refine s_aload_n kx_138_0 rfl ?_
  refine r_getR (k := 0) (f := 1) (k2 := 3) kx_138_1 kp_138_19 (tk_0 hT) kf_11_1 (by decide) (rq_0_1 hI) ?_
  refine s_aload_n kx_138_4 rfl ?_
  refine r_getR (k := 0) (f := 0) (k2 := 1) kx_138_5 kp_138_10 (tk_0 hT) kf_11_0 (by decide) (rq_0_0 hI) ?_
  refine s_aload_n kx_138_8 rfl ?_
  refine r_getR (k := 0) (f := 2) (k2 := 7) kx_138_9 kp_138_26 (tk_0 hT) kf_11_2 (by decide) (rq_0_2 hI) ?_
  refine r_getR (k := 7) (f := 1) (k2 := t) kx_138_12 kp_138_89 (tk_7 hT) kf_5_1 (by decide) h71 ?_
  refine s_callV2 (k := 3) (s1 := 3) (s2 := 0) (as := [rf t, rf 1]) (rest := []) kx_138_15 kp_138_93 (Or.inl rfl) rfl (tk_3 hT) ki_121 kcl_121 rfl rfl (by decide) (f_121 (d := d) hT hI ht hG hux (KT.refl (u := u) (M := M))) (kG (fun v1 T2 M2 hT2 hI2 fr2 hG2 v1p => ?_))
  have hFm2 := hFm.call fr2 rfl
  have v1pk := v1p.2
  (replace v1p := v1p.1)
  obtain ⟨D0, hDC, hrd⟩ := v1p
  have ht10 := rg_5_2 hI2
  refine s_istore_n kx_138_18 km_138_1 rfl ?_
  refine s_aload_n kx_138_19 rfl ?_
  refine r_getR (k := 0) (f := 0) (k2 := 1) kx_138_20 kp_138_10 (tk_0 hT2) kf_11_0 (by decide) (rq_0_0 hI2) ?_
  refine s_iconst (v := 0) kx_138_23 (by decide) ?_
  refine r_put (k := 1) (f := 1) kx_138_24 kp_138_78 (tk_1 hT2) kf_8_1 rfl (by decide) (by decide) hI2 (ru_1_1 (by omega) (by omega)) (fun M3 hI3 u3 => ?_)
  have hFm3 := hFm2.up u3 rfl
  refine s_aload_n kx_138_27 rfl ?_
  refine s_aload_n kx_138_28 rfl ?_
  refine r_getR (k := 0) (f := 1) (k2 := 3) kx_138_29 kp_138_19 (tk_0 hT2) kf_11_1 (by decide) (rq_0_1 hI3) ?_
  refine r_getR (k := 3) (f := 1) (k2 := 5) kx_138_32 kp_138_97 (tk_3 hT2) kf_10_1 (by decide) (rq_3_1 hI3) ?_
  refine r_getU (k := 5) (f := 6) kx_138_35 kp_138_101 (tk_5 hT2) kf_3_6 (fun _ => rfl) (fun v4 v4e => ?_)
  have hw6 : M2 5 6 = v4 := ((u3.2 5 6 (by omega))).symm.trans v4e
  refine r_put (k := 0) (f := 10) kx_138_38 kp_138_69 (tk_0 hT2) kf_11_10 rfl (by decide) (by decide) hI3 ru_0_10 (fun M5 hI5 u5 => ?_)
  have hFm5 := hFm3.up u5 rfl
  refine s_aload_n kx_138_41 rfl ?_
  refine s_aload_n kx_138_42 rfl ?_
  refine r_getK (k := 0) (f := 10) kx_138_43 kp_138_69 (tk_0 hT2) kf_11_10 (fun _ => rfl) u5.1 ?_
  refine s_if_ne (t := 53) kx_138_46 (by decide) (fun hc6 => ?_) (fun hc6 => ?_)
  · refine s_aload_n kx_138_53 rfl ?_
    refine r_getR (k := 0) (f := 1) (k2 := 3) kx_138_54 kp_138_19 (tk_0 hT2) kf_11_1 (by decide) (rq_0_1 hI5) ?_
    refine r_getR (k := 3) (f := 1) (k2 := 5) kx_138_57 kp_138_97 (tk_3 hT2) kf_10_1 (by decide) (rq_3_1 hI5) ?_
    refine r_getU (k := 5) (f := 7) kx_138_60 kp_138_106 (tk_5 hT2) kf_3_7 (fun _ => rfl) (fun v7 v7e => ?_)
    have hw7 : M2 5 7 = v7 := (((u5.2 5 7 (by omega)).trans (u3.2 5 7 (by omega)))).symm.trans v7e
    refine r_put (k := 0) (f := 11) kx_138_63 kp_138_72 (tk_0 hT2) kf_11_11 rfl (by decide) (by decide) hI5 ru_0_11 (fun M8 hI8 u8 => ?_)
    have hFm8 := hFm5.up u8 rfl
    refine s_iload_n kx_138_66 rfl ?_
    refine s_iconst (v := (-1)) kx_138_67 (by decide) ?_
    refine s_icmp_ne (t := 77) kx_138_68 (by decide) (fun hc9 => ?_) (fun hc9 => ?_)
    · refine s_aload_n kx_138_77 rfl ?_
      refine r_getR (k := 0) (f := 2) (k2 := 7) kx_138_78 kp_138_26 (tk_0 hT2) kf_11_2 (by decide) (rq_0_2 hI8) ?_
      refine s_callV2 (k := 7) (s1 := 1) (s2 := 0) (as := []) (rest := []) kx_138_81 kp_138_107 (Or.inl rfl) rfl (tk_7 hT2) ki_42 kcl_42 rfl rfl (by decide) (m_42 (d := d + 85) hT2 hI8 ht hu ((u8.2 7 1 (by omega)).trans ((u5.2 7 1 (by omega)).trans ((u3.2 7 1 (by omega)).trans ((fr2 7 1 rfl).trans h71)))) ((u8.2 7 0 (by omega)).trans ((u5.2 7 0 (by omega)).trans ((u3.2 7 0 (by omega)).trans ((fr2 7 0 rfl).trans h7u))))) (kV (fun M11 hI11 fr11 v10p => ?_))
      have hFm11 := hFm8.call fr11 rfl
      refine s_aload_n kx_138_84 rfl ?_
      refine r_getR (k := 0) (f := 3) (k2 := 44) kx_138_85 kp_138_33 (tk_0 hT2) kf_11_3 (by decide) (rq_0_3 hI11) ?_
      refine s_iconst (v := 0) kx_138_88 (by decide) ?_
      refine r_put (k := 44) (f := 2) kx_138_89 kp_138_110 (tk_44 hT2) kf_2_2 rfl (by decide) (by decide) hI11 ru_44_2 (fun M12 hI12 u12 => ?_)
      have hFm12 := hFm11.up u12 rfl
      refine s_aload_n kx_138_92 rfl ?_
      refine r_getR (k := 0) (f := 5) (k2 := 51) kx_138_93 kp_138_47 (tk_0 hT2) kf_11_5 (by decide) (rq_0_5 hI12) ?_
      refine s_iconst (v := 0) kx_138_96 (by decide) ?_
      refine r_put (k := 51) (f := 2) kx_138_97 kp_138_113 (tk_51 hT2) kf_0_2 rfl (by decide) (by decide) hI12 (ru_51_2 (by omega) (by omega)) (fun M13 hI13 u13 => ?_)
      have hFm13 := hFm12.up u13 rfl
      refine s_aload_n kx_138_100 rfl ?_
      refine r_getR (k := 0) (f := 6) (k2 := 54) kx_138_101 kp_138_54 (tk_0 hT2) kf_11_6 (by decide) (rq_0_6 hI13) ?_
      refine s_iconst (v := 0) kx_138_104 (by decide) ?_
      refine r_put (k := 54) (f := 6) kx_138_105 kp_138_116 (tk_54 hT2) kf_6_6 rfl (by decide) (by decide) hI13 (ru_54_6 (by omega) (by omega)) (fun M14 hI14 u14 => ?_)
      have hFm14 := hFm13.up u14 rfl
      refine s_iload_n kx_138_108 rfl ?_
      have hk15 : M14 0 10 = v4 := ((u14.2 0 10 (by omega)).trans ((u13.2 0 10 (by omega)).trans ((u12.2 0 10 (by omega)).trans ((fr11 0 10 rfl).trans ((u8.2 0 10 (by omega)).trans u5.1)))))
      have hk16 : M14 0 11 = v7 := ((u14.2 0 11 (by omega)).trans ((u13.2 0 11 (by omega)).trans ((u12.2 0 11 (by omega)).trans ((fr11 0 11 rfl).trans u8.1))))
      exact s_iret kx_138_109 (Or.inl kq_138) ⟨_, _, _, rfl, rfl, hT2, hI14, hFm14, (Gm.fr (Gm.fr (Gm.fr (Gm.fr (Gm.fr (Gm.fr (Gm.fr hG2 (Up.fr u3) rfl) (Up.fr u5) rfl) (Up.fr u8) rfl) fr11 rfl) (Up.fr u12) rfl) (Up.fr u13) rfl) (Up.fr u14) rfl), ⟨Or.inl ⟨((u14.2 7 0 (by omega)).trans ((u13.2 7 0 (by omega)).trans ((u12.2 7 0 (by omega)).trans v10p.1))), ((u14.2 7 1 (by omega)).trans ((u13.2 7 1 (by omega)).trans ((u12.2 7 1 (by omega)).trans v10p.2)))⟩, ((u14.2 1 1 (by omega)).trans ((u13.2 1 1 (by omega)).trans ((u12.2 1 1 (by omega)).trans ((fr11 1 1 rfl).trans ((u8.2 1 1 (by omega)).trans ((u5.2 1 1 (by omega)).trans u3.1)))))), hrd.elim (fun z => absurd z.1 (by omega)) (fun z => (fun ⟨e6, D2, d2, w2, r2⟩ => absurd e6 (by omega)) z.2)⟩⟩
    · refine s_aload_n kx_138_71 rfl ?_
      refine s_iconst (v := 1) kx_138_72 (by decide) ?_
      refine s_callV2 (k := 0) (s1 := 2) (s2 := 0) (as := [(0, 1)]) (rest := []) kx_138_73 kp_138_81 (Or.inl rfl) rfl (tk_0 hT2) ki_165 kcl_165 rfl rfl (by decide) (m_165 (d := d + 86) (kind := 1) hT2 hI8) (kW (fun v17 M18 hI18 fr18 v17p => ?_))
      have hFm18 := hFm8.call fr18 rfl
      have hk19 : M18 0 10 = v4 := ((fr18 0 10 rfl).trans ((u8.2 0 10 (by omega)).trans u5.1))
      have hk20 : M18 0 11 = v7 := ((fr18 0 11 rfl).trans u8.1)
      exact s_iret kx_138_76 (Or.inl kq_138) ⟨_, _, _, rfl, rfl, hT2, hI18, hFm18, (Gm.fr (Gm.fr (Gm.fr (Gm.fr hG2 (Up.fr u3) rfl) (Up.fr u5) rfl) (Up.fr u8) rfl) fr18 rfl), ⟨Or.inr ⟨((fr18 7 0 rfl).trans ((u8.2 7 0 (by omega)).trans ((u5.2 7 0 (by omega)).trans ((u3.2 7 0 (by omega)).trans ((fr2 7 0 rfl).trans h7u))))), ((fr18 7 1 rfl).trans ((u8.2 7 1 (by omega)).trans ((u5.2 7 1 (by omega)).trans ((u3.2 7 1 (by omega)).trans ((fr2 7 1 rfl).trans h71)))))⟩, ((fr18 1 1 rfl).trans ((u8.2 1 1 (by omega)).trans ((u5.2 1 1 (by omega)).trans u3.1))), hrd.elim (fun z => (fun ⟨g, g1, g2, g3⟩ => ⟨g, 0, D0, D0, g3 0 D0, hDC, Or.inl ⟨g1, by omega, by have := g2.1; omega, by have := g2.2.1; omega, by have := g2.2.2.1; omega, by have := g2.2.2.2; omega, ((fr18 7 0 rfl).trans ((u8.2 7 0 (by omega)).trans ((u5.2 7 0 (by omega)).trans ((u3.2 7 0 (by omega)).trans ((fr2 7 0 rfl).trans h7u))))), ((fr18 7 1 rfl).trans ((u8.2 7 1 (by omega)).trans ((u5.2 7 1 (by omega)).trans ((u3.2 7 1 (by omega)).trans ((fr2 7 1 rfl).trans h71))))), (KT.fr (KT.up (KT.up (KT.up v1pk u3 (by omega)) u5 (by omega)) u8 (by omega)) fr18 ht hux rfl)⟩⟩) z.2) (fun z => (fun ⟨e6, D2, d2, w2, r2⟩ => absurd e6 (by omega)) z.2)⟩⟩
  · refine s_iconst (v := (-1)) kx_138_49 (by decide) ?_
    refine s_goto (t := 63) kx_138_50 (by decide) ?_
    refine r_put (k := 0) (f := 11) kx_138_63 kp_138_72 (tk_0 hT2) kf_11_11 rfl (by decide) (by decide) hI5 ru_0_11 (fun M21 hI21 u21 => ?_)
    have hFm21 := hFm5.up u21 rfl
    refine s_iload_n kx_138_66 rfl ?_
    refine s_iconst (v := (-1)) kx_138_67 (by decide) ?_
    refine s_icmp_ne (t := 77) kx_138_68 (by decide) (fun hc22 => ?_) (fun hc22 => ?_)
    · refine s_aload_n kx_138_77 rfl ?_
      refine r_getR (k := 0) (f := 2) (k2 := 7) kx_138_78 kp_138_26 (tk_0 hT2) kf_11_2 (by decide) (rq_0_2 hI21) ?_
      refine s_callV2 (k := 7) (s1 := 1) (s2 := 0) (as := []) (rest := []) kx_138_81 kp_138_107 (Or.inl rfl) rfl (tk_7 hT2) ki_42 kcl_42 rfl rfl (by decide) (m_42 (d := d + 85) hT2 hI21 ht hu ((u21.2 7 1 (by omega)).trans ((u5.2 7 1 (by omega)).trans ((u3.2 7 1 (by omega)).trans ((fr2 7 1 rfl).trans h71)))) ((u21.2 7 0 (by omega)).trans ((u5.2 7 0 (by omega)).trans ((u3.2 7 0 (by omega)).trans ((fr2 7 0 rfl).trans h7u))))) (kV (fun M24 hI24 fr24 v23p => ?_))
      have hFm24 := hFm21.call fr24 rfl
      refine s_aload_n kx_138_84 rfl ?_
      refine r_getR (k := 0) (f := 3) (k2 := 44) kx_138_85 kp_138_33 (tk_0 hT2) kf_11_3 (by decide) (rq_0_3 hI24) ?_
      refine s_iconst (v := 0) kx_138_88 (by decide) ?_
      refine r_put (k := 44) (f := 2) kx_138_89 kp_138_110 (tk_44 hT2) kf_2_2 rfl (by decide) (by decide) hI24 ru_44_2 (fun M25 hI25 u25 => ?_)
      have hFm25 := hFm24.up u25 rfl
      refine s_aload_n kx_138_92 rfl ?_
      refine r_getR (k := 0) (f := 5) (k2 := 51) kx_138_93 kp_138_47 (tk_0 hT2) kf_11_5 (by decide) (rq_0_5 hI25) ?_
      refine s_iconst (v := 0) kx_138_96 (by decide) ?_
      refine r_put (k := 51) (f := 2) kx_138_97 kp_138_113 (tk_51 hT2) kf_0_2 rfl (by decide) (by decide) hI25 (ru_51_2 (by omega) (by omega)) (fun M26 hI26 u26 => ?_)
      have hFm26 := hFm25.up u26 rfl
      refine s_aload_n kx_138_100 rfl ?_
      refine r_getR (k := 0) (f := 6) (k2 := 54) kx_138_101 kp_138_54 (tk_0 hT2) kf_11_6 (by decide) (rq_0_6 hI26) ?_
      refine s_iconst (v := 0) kx_138_104 (by decide) ?_
      refine r_put (k := 54) (f := 6) kx_138_105 kp_138_116 (tk_54 hT2) kf_6_6 rfl (by decide) (by decide) hI26 (ru_54_6 (by omega) (by omega)) (fun M27 hI27 u27 => ?_)
      have hFm27 := hFm26.up u27 rfl
      refine s_iload_n kx_138_108 rfl ?_
      have hk28 : M27 0 10 = v4 := ((u27.2 0 10 (by omega)).trans ((u26.2 0 10 (by omega)).trans ((u25.2 0 10 (by omega)).trans ((fr24 0 10 rfl).trans ((u21.2 0 10 (by omega)).trans u5.1)))))
      have hk29 : M27 0 11 = (-1) := ((u27.2 0 11 (by omega)).trans ((u26.2 0 11 (by omega)).trans ((u25.2 0 11 (by omega)).trans ((fr24 0 11 rfl).trans u21.1))))
      exact s_iret kx_138_109 (Or.inl kq_138) ⟨_, _, _, rfl, rfl, hT2, hI27, hFm27, (Gm.fr (Gm.fr (Gm.fr (Gm.fr (Gm.fr (Gm.fr (Gm.fr hG2 (Up.fr u3) rfl) (Up.fr u5) rfl) (Up.fr u21) rfl) fr24 rfl) (Up.fr u25) rfl) (Up.fr u26) rfl) (Up.fr u27) rfl), ⟨Or.inl ⟨((u27.2 7 0 (by omega)).trans ((u26.2 7 0 (by omega)).trans ((u25.2 7 0 (by omega)).trans v23p.1))), ((u27.2 7 1 (by omega)).trans ((u26.2 7 1 (by omega)).trans ((u25.2 7 1 (by omega)).trans v23p.2)))⟩, ((u27.2 1 1 (by omega)).trans ((u26.2 1 1 (by omega)).trans ((u25.2 1 1 (by omega)).trans ((fr24 1 1 rfl).trans ((u21.2 1 1 (by omega)).trans ((u5.2 1 1 (by omega)).trans u3.1)))))), hrd.elim (fun z => (fun ⟨g, g1, g2, g3⟩ => absurd g2.1 (by omega)) z.2) (fun z => (fun ⟨e6, D2, d2, w2, r2⟩ => ⟨0, v1, D0, D2, r2, hDC, Or.inr ⟨rfl, by omega, by omega, by omega, by omega, ((u27.2 7 0 (by omega)).trans ((u26.2 7 0 (by omega)).trans ((u25.2 7 0 (by omega)).trans v23p.1))), ((u27.2 7 1 (by omega)).trans ((u26.2 7 1 (by omega)).trans ((u25.2 7 1 (by omega)).trans v23p.2))), (owD_up2 (owD_up2 (owD_up2 (owD_fr (owD_up2 (owD_up2 (owD_up2 d2 u3 (by omega) ht (by omega)) u5 (by omega) ht (by omega)) u21 (by omega) ht (by omega)) ht fr24 rfl) u25 (by omega) ht (by omega)) u26 (by omega) ht (by omega)) u27 (by omega) ht (by omega)), w2.1, w2.2⟩⟩) z.2)⟩⟩
    · refine s_aload_n kx_138_71 rfl ?_
      refine s_iconst (v := 1) kx_138_72 (by decide) ?_
      refine s_callV2 (k := 0) (s1 := 2) (s2 := 0) (as := [(0, 1)]) (rest := []) kx_138_73 kp_138_81 (Or.inl rfl) rfl (tk_0 hT2) ki_165 kcl_165 rfl rfl (by decide) (m_165 (d := d + 86) (kind := 1) hT2 hI21) (kW (fun v30 M31 hI31 fr31 v30p => ?_))
      have hFm31 := hFm21.call fr31 rfl
      have hk32 : M31 0 10 = v4 := ((fr31 0 10 rfl).trans ((u21.2 0 10 (by omega)).trans u5.1))
      have hk33 : M31 0 11 = (-1) := ((fr31 0 11 rfl).trans u21.1)
      exact s_iret kx_138_76 (Or.inl kq_138) ⟨_, _, _, rfl, rfl, hT2, hI31, hFm31, (Gm.fr (Gm.fr (Gm.fr (Gm.fr hG2 (Up.fr u3) rfl) (Up.fr u5) rfl) (Up.fr u21) rfl) fr31 rfl), ⟨Or.inr ⟨((fr31 7 0 rfl).trans ((u21.2 7 0 (by omega)).trans ((u5.2 7 0 (by omega)).trans ((u3.2 7 0 (by omega)).trans ((fr2 7 0 rfl).trans h7u))))), ((fr31 7 1 rfl).trans ((u21.2 7 1 (by omega)).trans ((u5.2 7 1 (by omega)).trans ((u3.2 7 1 (by omega)).trans ((fr2 7 1 rfl).trans h71)))))⟩, ((fr31 1 1 rfl).trans ((u21.2 1 1 (by omega)).trans ((u5.2 1 1 (by omega)).trans u3.1))), hrd.elim (fun z => (fun ⟨g, g1, g2, g3⟩ => absurd g2.1 (by omega)) z.2) (fun z => absurd z.1 (by omega))⟩⟩
