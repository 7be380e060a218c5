def gS_207_m : List (Nat × Nat) := [(63, 10), (63, 13), (63, 3), (63, 4), (63, 5), (63, 6), (63, 7), (63, 8), (63, 9), (69, 99999), (70, 99999), (71, 99999), (72, 99999), (73, 99999), (74, 99999), (84, 99999)]
set_option maxHeartbeats 8000000 in
theorem f_207 {xs : Nat → Int} {Ln d : Nat} {T : List cK} {M : cM} (hT : TT T) (hI : Rng M) (hX : LXp M) {s : Nat → Int} {n q : Int} {D : cM} (hY : Yst M s n 0 q) (hn : n ≤ 1600) (hR : RSD M D) (hW : DW D) (p0 : M 63 4 + 1 ≤ M 63 5) : cC k_P xs Ln (d + 3) 207 [rf 63] (T, M) (qV T M gS_207_m (fun M1 => LXp M1 ∧ M 63 4 ≤ M1 63 4 ∧ M 63 9 ≤ M1 63 9 ∧ (PRd M M1) ∧ Yst M1 s n (owPerF s n D q) (owPerP s n q) ∧ (owPerF s n D q = 0 → RSD M1 (owPerD s n D q)))) := by
  show cP k_P xs Ln (d + 3) 207 0 [(0, rf 63)] [] (T, M) _
  have hFm : Fr gS_207_m M M := Fr.refl
  have h639 := rg_63_9 hI
  have hz9 := hY.z.1
  have hzb := hY.z.2.b hn
  have hq0 := hY.z.2.2.2.1
  have hqn := hY.z.2.2.2.2.1
  have hr36 := rg_63_36 hI
  have hq65 := hR.1
  have hq69 := hR.2.1
  have hw0 := hW.1
  have hw1 := hW.2.1
  have hw2 := hW.2.2.1
  have hw3 := hW.2.2.2.1
  refine s_aload_n kx_207_0 rfl ?_
  refine s_aload_n kx_207_1 rfl ?_
  refine r_getR (k := 63) (f := 19) (k2 := 69) kx_207_2 kp_207_69 (tk_63 hT) kf_12_19 (by decide) (rq_63_19 hI) ?_
  refine s_aload_n kx_207_5 rfl ?_
  refine r_getI (k := 63) (f := 36) kx_207_6 kp_207_121 (tk_63 hT) kf_12_36 (fun _ => rfl) (rg_63_36 hI) (fun v1 v1e v1a v1b => ?_)
  have hq69i := hq69
  rw [v1e] at hq69i
  refine r_ald (k := 69) kx_207_9 (tk_69 hT) ⟨by omega, by omega⟩ (rg_69 hI) (fun v2 v2e v2a v2b => ?_)
  refine s_bipush (v := 8) kx_207_10 (by decide) ?_
  refine s_icmp_ne (t := 19) kx_207_12 (by decide) (fun hc3 => ?_) (fun hc3 => ?_)
  · refine s_iconst (v := 0) kx_207_19 (by decide) ?_
    refine s_callV2 (k := 63) (s1 := 2) (s2 := 0) (as := [(0, 0)]) (rest := []) kx_207_20 kp_207_386 (Or.inl rfl) rfl (tk_63 hT) ki_199 kcl_199 rfl rfl (by decide) (f_199 (d := d) (full := 0) hT hI hX hY hn (by omega)) (kW (fun v4 M5 hI5 fr5 v4p => ?_))
    have hFm5 := hFm.call fr5 rfl
    have tr6 := rg_63_9 hI5
    refine s_if_ne (t := 27) kx_207_23 (by decide) (fun hc7 => ?_) (fun hc7 => ?_)
    · have hc8 := v4p.2.2.2.resolve_right (by omega)
      have hc8a := hc8.2.1
      refine s_bipush (v := 8) kx_207_27 (by decide) ?_
      refine s_aload_n kx_207_29 rfl ?_
      refine r_getK (k := 63) (f := 36) kx_207_30 kp_207_121 (tk_63 hT) kf_12_36 (fun _ => rfl) ((fr5 63 36 rfl).trans v1e) ?_
      refine r_mul kx_207_33 ⟨by omega, by omega⟩ ?_
      refine s_aload_n kx_207_34 rfl ?_
      refine r_getR (k := 63) (f := 19) (k2 := 69) kx_207_35 kp_207_69 (tk_63 hT) kf_12_19 (by decide) (rq_63_19 hI5) ?_
      refine s_aload_n kx_207_38 rfl ?_
      refine r_getK (k := 63) (f := 36) kx_207_39 kp_207_121 (tk_63 hT) kf_12_36 (fun _ => rfl) ((fr5 63 36 rfl).trans v1e) ?_
      refine r_aldK (k := 69) kx_207_42 (tk_69 hT) ⟨by omega, by omega⟩ ((fr5 69 _ rfl).trans v2e) ?_
      refine r_add kx_207_43 ⟨by omega, by omega⟩ ?_
      refine s_istore_n kx_207_44 km_207_1 rfl ?_
      refine s_aload_n kx_207_45 rfl ?_
      refine r_getR (k := 63) (f := 34) (k2 := 84) kx_207_46 kp_207_115 (tk_63 hT) kf_12_34 (by decide) (rq_63_34 hI5) ?_
      refine s_iload_n kx_207_49 rfl ?_
      refine s_aload_n kx_207_50 rfl ?_
      refine s_callV2 (k := 63) (s1 := 1) (s2 := 2) (as := []) (rest := [(0, ((8 * v1) + v2)), rf 84]) kx_207_51 kp_207_390 (Or.inl rfl) rfl (tk_63 hT) ki_201 kcl_201 rfl rfl (by decide) (f_201 (d := d) hT hI5 v4p.1 (show Yst M5 s n 0 (owE s n q) from Or.inr ⟨rfl, hc8.2.1.2.2, hc8.2.2⟩) hn (RSD.fr hR fr5 rfl)) (kW (fun v9 M10 hI10 fr10 v9p => ?_))
      have hFm10 := hFm5.call fr10 rfl
      have tr11 := rg_63_9 hI10
      have hk12 : M10 63 36 = v1 := ((fr10 63 36 rfl).trans ((fr5 63 36 rfl).trans v1e))
      refine r_last (k := 84) kx_207_54 (tk_84 hT) ⟨by omega, by omega⟩ hI10 ru_84 (fun M13 hI13 u13 => ?_)
      have hFm13 := hFm10.up u13 rfl
      have tr14 := (u13.2 63 3 (by omega))
      have tr15 := (u13.2 63 4 (by omega))
      have tr16 := (u13.2 63 5 (by omega))
      have tr17 := (u13.2 63 9 (by omega))
      have tr18 := (u13.2 63 10 (by omega))
      have hRS19 := RSD.upk (RSD.fr (RSD.fr hR fr5 rfl) fr10 rfl) u13 (by omega) ⟨by omega, by omega⟩ (by omega)
      refine s_aload_n kx_207_55 rfl ?_
      refine s_ldc2_w kx_207_56 kp_207_301 ?_
      refine s_callV2 (k := 63) (s1 := 3) (s2 := 0) (as := [(1, 126943973305959)]) (rest := []) kx_207_59 kp_207_394 (Or.inl rfl) rfl (tk_63 hT) ki_200 kcl_200 rfl rfl (by decide) (f_200 (d := d) (w := 126943973305959) hT hI13 (LXp.up v9p.1 u13 (Or.inl (by decide))) (Yst.up v9p.2.2.2.2.1 u13 ⟨by decide, Or.inl (by decide)⟩) hn (w5 := 659111367) n58_strong (Or.inr (by decide)) (by omega)) (kV (fun M21 hI21 fr21 v20p => ?_))
      have hFm21 := hFm13.call fr21 rfl
      have tr22 := rg_63_9 hI21
      refine s_aload_n kx_207_62 rfl ?_
      refine r_getR (k := 63) (f := 20) (k2 := 70) kx_207_63 kp_207_72 (tk_63 hT) kf_12_20 (by decide) (rq_63_20 hI21) ?_
      refine s_iload_n kx_207_66 rfl ?_
      refine s_aload_n kx_207_67 rfl ?_
      refine s_iconst (v := 1) kx_207_68 (by decide) ?_
      refine s_bipush (v := 99) kx_207_69 (by decide) ?_
      refine s_callV2 (k := 63) (s1 := 3) (s2 := 2) (as := [(0, 99), (0, 1)]) (rest := [(0, ((8 * v1) + v2)), rf 70]) kx_207_71 kp_207_398 (Or.inl rfl) rfl (tk_63 hT) ki_188 kcl_188 rfl rfl (by decide) (f_188 (d := d) (low := 1) (high := 99) hT hI21 v20p.1 v20p.2.2.2.2 hn) (kW (fun v23 M24 hI24 fr24 v23p => ?_))
      have hFm24 := hFm21.call fr24 rfl
      have tr25 := rg_63_9 hI24
      have hk26 : M24 63 36 = v1 := ((fr24 63 36 rfl).trans ((fr21 63 36 rfl).trans ((u13.2 63 36 (by omega)).trans ((fr10 63 36 rfl).trans ((fr5 63 36 rfl).trans v1e)))))
      refine r_ast (k := 70) kx_207_74 (tk_70 hT) ⟨by omega, by omega⟩ hI24 ru_70 (fun M27 hI27 u27 => ?_)
      have hFm27 := hFm24.up u27 rfl
      have tr28 := (u27.2 63 3 (by omega))
      have tr29 := (u27.2 63 4 (by omega))
      have tr30 := (u27.2 63 5 (by omega))
      have tr31 := (u27.2 63 9 (by omega))
      have tr32 := (u27.2 63 10 (by omega))
      have hRS33 := RSD.upk (RSD.fr (RSD.fr hRS19 fr21 rfl) fr24 rfl) u27 (by omega) ⟨by omega, by omega⟩ (by omega)
      refine s_aload_n kx_207_75 rfl ?_
      refine s_ldc2_w kx_207_76 kp_207_303 ?_
      refine s_callV2 (k := 63) (s1 := 3) (s2 := 0) (as := [(1, 426952976754)]) (rest := []) kx_207_79 kp_207_394 (Or.inl rfl) rfl (tk_63 hT) ki_200 kcl_200 rfl rfl (by decide) (f_200 (d := d) (w := 426952976754) hT hI27 (LXp.up v23p.1 u27 (Or.inl (by decide))) (Yst.up v23p.2.2.2.2.1 u27 ⟨by decide, Or.inl (by decide)⟩) hn (w5 := 109094464) n58_chair (Or.inr (by decide)) (by omega)) (kV (fun M35 hI35 fr35 v34p => ?_))
      have hFm35 := hFm27.call fr35 rfl
      have tr36 := rg_63_9 hI35
      refine s_aload_n kx_207_82 rfl ?_
      refine r_getR (k := 63) (f := 21) (k2 := 71) kx_207_83 kp_207_75 (tk_63 hT) kf_12_21 (by decide) (rq_63_21 hI35) ?_
      refine s_iload_n kx_207_86 rfl ?_
      refine s_aload_n kx_207_87 rfl ?_
      refine s_iconst (v := 1) kx_207_88 (by decide) ?_
      refine s_bipush (v := 99) kx_207_89 (by decide) ?_
      refine s_callV2 (k := 63) (s1 := 3) (s2 := 2) (as := [(0, 99), (0, 1)]) (rest := [(0, ((8 * v1) + v2)), rf 71]) kx_207_91 kp_207_398 (Or.inl rfl) rfl (tk_63 hT) ki_188 kcl_188 rfl rfl (by decide) (f_188 (d := d) (low := 1) (high := 99) hT hI35 v34p.1 v34p.2.2.2.2 hn) (kW (fun v37 M38 hI38 fr38 v37p => ?_))
      have hFm38 := hFm35.call fr38 rfl
      have tr39 := rg_63_9 hI38
      have hk40 : M38 63 36 = v1 := ((fr38 63 36 rfl).trans ((fr35 63 36 rfl).trans ((u27.2 63 36 (by omega)).trans ((fr24 63 36 rfl).trans ((fr21 63 36 rfl).trans ((u13.2 63 36 (by omega)).trans ((fr10 63 36 rfl).trans ((fr5 63 36 rfl).trans v1e))))))))
      refine r_ast (k := 71) kx_207_94 (tk_71 hT) ⟨by omega, by omega⟩ hI38 ru_71 (fun M41 hI41 u41 => ?_)
      have hFm41 := hFm38.up u41 rfl
      have tr42 := (u41.2 63 3 (by omega))
      have tr43 := (u41.2 63 4 (by omega))
      have tr44 := (u41.2 63 5 (by omega))
      have tr45 := (u41.2 63 9 (by omega))
      have tr46 := (u41.2 63 10 (by omega))
      have hRS47 := RSD.upk (RSD.fr (RSD.fr hRS33 fr35 rfl) fr38 rfl) u41 (by omega) ⟨by omega, by omega⟩ (by omega)
      refine s_aload_n kx_207_95 rfl ?_
      refine s_ldc2_w kx_207_96 kp_207_305 ?_
      refine s_callV2 (k := 63) (s1 := 3) (s2 := 0) (as := [(1, 2003395685)]) (rest := []) kx_207_99 kp_207_394 (Or.inl rfl) rfl (tk_63 hT) ki_200 kcl_200 rfl rfl (by decide) (f_200 (d := d) (w := 2003395685) hT hI41 (LXp.up v37p.1 u41 (Or.inl (by decide))) (Yst.up v37p.2.2.2.2.1 u41 ⟨by decide, Or.inl (by decide)⟩) hn (w5 := 781325312) n58_wide (Or.inr (by decide)) (by omega)) (kV (fun M49 hI49 fr49 v48p => ?_))
      have hFm49 := hFm41.call fr49 rfl
      have tr50 := rg_63_9 hI49
      refine s_aload_n kx_207_102 rfl ?_
      refine r_getR (k := 63) (f := 22) (k2 := 72) kx_207_103 kp_207_78 (tk_63 hT) kf_12_22 (by decide) (rq_63_22 hI49) ?_
      refine s_iload_n kx_207_106 rfl ?_
      refine s_aload_n kx_207_107 rfl ?_
      refine s_iconst (v := 1) kx_207_108 (by decide) ?_
      refine s_bipush (v := 9) kx_207_109 (by decide) ?_
      refine s_callV2 (k := 63) (s1 := 3) (s2 := 2) (as := [(0, 9), (0, 1)]) (rest := [(0, ((8 * v1) + v2)), rf 72]) kx_207_111 kp_207_398 (Or.inl rfl) rfl (tk_63 hT) ki_188 kcl_188 rfl rfl (by decide) (f_188 (d := d) (low := 1) (high := 9) hT hI49 v48p.1 v48p.2.2.2.2 hn) (kW (fun v51 M52 hI52 fr52 v51p => ?_))
      have hFm52 := hFm49.call fr52 rfl
      have tr53 := rg_63_9 hI52
      have hk54 : M52 63 36 = v1 := ((fr52 63 36 rfl).trans ((fr49 63 36 rfl).trans ((u41.2 63 36 (by omega)).trans ((fr38 63 36 rfl).trans ((fr35 63 36 rfl).trans ((u27.2 63 36 (by omega)).trans ((fr24 63 36 rfl).trans ((fr21 63 36 rfl).trans ((u13.2 63 36 (by omega)).trans ((fr10 63 36 rfl).trans ((fr5 63 36 rfl).trans v1e)))))))))))
      refine r_ast (k := 72) kx_207_114 (tk_72 hT) ⟨by omega, by omega⟩ hI52 ru_72 (fun M55 hI55 u55 => ?_)
      have hFm55 := hFm52.up u55 rfl
      have tr56 := (u55.2 63 3 (by omega))
      have tr57 := (u55.2 63 4 (by omega))
      have tr58 := (u55.2 63 5 (by omega))
      have tr59 := (u55.2 63 9 (by omega))
      have tr60 := (u55.2 63 10 (by omega))
      have hRS61 := RSD.upk (RSD.fr (RSD.fr hRS47 fr49 rfl) fr52 rfl) u55 (by omega) ⟨by omega, by omega⟩ (by omega)
      refine s_aload_n kx_207_115 rfl ?_
      refine s_ldc2_w kx_207_116 kp_207_307 ?_
      refine s_callV2 (k := 63) (s1 := 3) (s2 := 0) (as := [(1, 24948)]) (rest := []) kx_207_119 kp_207_394 (Or.inl rfl) rfl (tk_63 hT) ki_200 kcl_200 rfl rfl (by decide) (f_200 (d := d) (w := 24948) hT hI55 (LXp.up v51p.1 u55 (Or.inl (by decide))) (Yst.up v51p.2.2.2.2.1 u55 ⟨by decide, Or.inl (by decide)⟩) hn (w5 := 54525952) n58_at (Or.inr (by decide)) (by omega)) (kV (fun M63 hI63 fr63 v62p => ?_))
      have hFm63 := hFm55.call fr63 rfl
      have tr64 := rg_63_9 hI63
      refine s_aload_n kx_207_122 rfl ?_
      refine s_iconst (v := 0) kx_207_123 (by decide) ?_
      refine s_callV2 (k := 63) (s1 := 2) (s2 := 0) (as := [(0, 0)]) (rest := []) kx_207_124 kp_207_383 (Or.inl rfl) rfl (tk_63 hT) ki_202 kcl_202 rfl rfl (by decide) (f_202 (d := d) (kind := 0) hT hI63 v62p.2.2.2.2 hn (RSD.fr hRS61 fr63 rfl) (by omega)) (kW (fun v65 M66 hI66 fr66 v65p => ?_))
      have hFm66 := hFm63.call fr66 rfl
      have tr67 := (fr66 63 3 rfl)
      have tr68 := (fr66 63 4 rfl)
      have tr69 := (fr66 63 5 rfl)
      have tr70 := (fr66 63 6 rfl)
      have tr71 := rg_63_9 hI66
      refine s_istore_n kx_207_127 km_207_2 rfl ?_
      refine s_aload_n kx_207_128 rfl ?_
      refine r_getI (k := 63) (f := 9) kx_207_129 kp_207_39 (tk_63 hT) kf_12_9 (fun _ => rfl) (rg_63_9 hI66) (fun v72 v72e v72a v72b => ?_)
      refine s_if_ne (t := 196) kx_207_132 (by decide) (fun hc73 => ?_) (fun hc73 => ?_)
      · refine s_aload_n kx_207_196 rfl ?_
        refine r_getK (k := 63) (f := 9) kx_207_197 kp_207_39 (tk_63 hT) kf_12_9 (fun _ => rfl) v72e ?_
        refine s_if_le (t := 204) kx_207_200 (by decide) (fun hc74 => absurd hc74 (by omega)) (fun hc74 => ?_)
        have hk75 : M66 63 9 = v72 := v72e
        exact s_vret kx_207_203 kq_207 ⟨_, rfl, rfl, hI66, hFm66, ⟨(LXp.fr v62p.1 fr66 rfl), by omega, by omega, by unfold PRd; omega, ⟨(by rw [← per_seq (s := s) (n := n) (D := D) (q := q) (w := owV s n (owE s n (owE s n (owE s n (owE s n (owE s n (owE s n (owE s n q)))))))) ⟨hq0, hqn⟩ (by omega) rfl, hm_pos (hm_in ⟨hq0, hqn⟩) (Yst.pos v65p.2.2.2.2.1 (by omega)).1]; exact yst_is rfl v65p.2.2.2.2.1 (Yst.pos v65p.2.2.2.2.1 (by omega)).1), fun g => by rw [← per_seq (s := s) (n := n) (D := D) (q := q) (w := owV s n (owE s n (owE s n (owE s n (owE s n (owE s n (owE s n (owE s n q)))))))) ⟨hq0, hqn⟩ (by omega) rfl, hm_pos (hm_in ⟨hq0, hqn⟩) (Yst.pos v65p.2.2.2.2.1 (by omega)).1] at g; exact absurd g (Yst.pos v65p.2.2.2.2.1 (by omega)).1⟩⟩⟩
      · have hpz := (Yst.zero v65p.2.2.2.2.1 (by omega))
        have hpr := (v65p.2.2.2.2.2 hpz.1)
        have hpr1 := hpr.1
        rw [yRi] at hpr1
        have hpc : yCt D 0 = D 0 0 := rfl
        have hpr2 := hpr.2.1
        have z5 := yKr_f hpz.1
        have z4 := yMu_f z5
        have hpw := v51p.2.2.2.2.2 z4
        have hpl := hpz.2.b hn
        have hpp := hpz.2.2.2.1
        have z3 := yMu_f (yNu_f z4)
        have z2 := yMu_f (yNu_f z3)
        have z1 := yMu_f (yNu_f z2)
        refine s_aload_n kx_207_135 rfl ?_
        refine r_getR (k := 63) (f := 16) (k2 := 66) kx_207_136 kp_207_60 (tk_63 hT) kf_12_16 (by decide) (rq_63_16 hI66) ?_
        refine s_bipush (v := 8) kx_207_139 (by decide) ?_
        refine s_aload_n kx_207_141 rfl ?_
        refine r_getK (k := 63) (f := 36) kx_207_142 kp_207_121 (tk_63 hT) kf_12_36 (fun _ => rfl) ((fr66 63 36 rfl).trans ((fr63 63 36 rfl).trans ((u55.2 63 36 (by omega)).trans ((fr52 63 36 rfl).trans ((fr49 63 36 rfl).trans ((u41.2 63 36 (by omega)).trans ((fr38 63 36 rfl).trans ((fr35 63 36 rfl).trans ((u27.2 63 36 (by omega)).trans ((fr24 63 36 rfl).trans ((fr21 63 36 rfl).trans ((u13.2 63 36 (by omega)).trans ((fr10 63 36 rfl).trans ((fr5 63 36 rfl).trans v1e)))))))))))))) ?_
        refine r_mul kx_207_145 ⟨by omega, by omega⟩ ?_
        refine s_iload_n kx_207_146 rfl ?_
        refine r_add kx_207_147 ⟨by omega, by omega⟩ ?_
        refine r_aldU (k := 66) kx_207_148 (tk_66 hT) ⟨by omega, by omega⟩ (fun v76 v76e => ?_)
        refine s_aload_n kx_207_149 rfl ?_
        refine r_getR (k := 63) (f := 22) (k2 := 72) kx_207_150 kp_207_78 (tk_63 hT) kf_12_22 (by decide) (rq_63_22 hI66) ?_
        refine s_iload_n kx_207_153 rfl ?_
        refine r_aldK (k := 72) kx_207_154 (tk_72 hT) ⟨by omega, by omega⟩ ((fr66 72 _ rfl).trans ((fr63 72 _ rfl).trans u55.1)) ?_
        have hrr := (RSD.fr (RSD.fr hRS61 fr63 rfl) fr66 rfl).room ((fr66 63 36 rfl).trans ((fr63 63 36 rfl).trans ((u55.2 63 36 (by omega)).trans ((fr52 63 36 rfl).trans ((fr49 63 36 rfl).trans ((u41.2 63 36 (by omega)).trans ((fr38 63 36 rfl).trans ((fr35 63 36 rfl).trans ((u27.2 63 36 (by omega)).trans ((fr24 63 36 rfl).trans ((fr21 63 36 rfl).trans ((u13.2 63 36 (by omega)).trans ((fr10 63 36 rfl).trans ((fr5 63 36 rfl).trans v1e)))))))))))))) (j := v65) (by omega) (by omega)
        have hrd : v76 = D 2 (v65).toNat := v76e.symm.trans hrr.1
        rw [hpr1] at hrd
        have hwr : 1 ≤ v51 ∧ v51 ≤ 9 := by have hnb := v51p.2.2.2.1; unfold NBd at hnb; omega
        refine s_icmp_lt (t := 187) kx_207_155 (by decide) (fun hc77 => ?_) (fun hc77 => ?_)
        · refine s_aload_n kx_207_187 rfl ?_
          refine s_iconst (v := 3) kx_207_188 (by decide) ?_
          refine s_aload_n kx_207_189 rfl ?_
          refine r_getI (k := 63) (f := 4) kx_207_190 kp_207_23 (tk_63 hT) kf_12_4 (fun _ => rfl) (rg_63_4 hI66) (fun v78 v78e v78a v78b => ?_)
          refine s_callV2 (k := 63) (s1 := 3) (s2 := 0) (as := [(0, v78), (0, 3)]) (rest := []) kx_207_193 kp_207_263 (Or.inl rfl) rfl (tk_63 hT) ki_176 kcl_176 rfl rfl (by decide) (f_176 (d := d + 2) (kind := 3) (place := v78) hT hI66 (by omega)) (kV (fun M80 hI80 fr80 v79p => ?_))
          have hFm80 := hFm66.call fr80 rfl
          have tr81 := (fr80 63 3 rfl)
          have tr82 := (fr80 63 4 rfl)
          have tr83 := (fr80 63 5 rfl)
          have tr84 := (fr80 63 6 rfl)
          have tr85 := rg_63_9 hI80
          refine s_aload_n kx_207_196 rfl ?_
          refine r_getI (k := 63) (f := 9) kx_207_197 kp_207_39 (tk_63 hT) kf_12_9 (fun _ => rfl) (rg_63_9 hI80) (fun v86 v86e v86a v86b => ?_)
          refine s_if_le (t := 204) kx_207_200 (by decide) (fun hc87 => ?_) (fun hc87 => ?_)
          · exact absurd h639 (by omega)
          · have hk88 : M80 63 4 = v78 := ((fr80 63 4 rfl).trans v78e)
            have hk89 : M80 63 9 = v86 := v86e
            exact s_vret kx_207_203 kq_207 ⟨_, rfl, rfl, hI80, hFm80, ⟨(LXp.fr (LXp.fr v62p.1 fr66 rfl) fr80 rfl), by omega, by omega, by unfold PRd; omega, ⟨(by rw [← per_seq (s := s) (n := n) (D := D) (q := q) (w := v51) ⟨hq0, hqn⟩ (by omega) hpw, hm_z (hm_in ⟨hq0, hqn⟩) hpz.1, if_pos (by omega)]; exact yst_bl (k := 3) (x := owB s n (owE s n (owE s n (owE s n (owE s n (owE s n (owE s n (owE s n (owE s n (owE s n q)))))))))) (by omega) (by omega) (by decide) (by omega) (by omega)), fun g => by exfalso; rw [← per_seq (s := s) (n := n) (D := D) (q := q) (w := v51) ⟨hq0, hqn⟩ (by omega) hpw, hm_z (hm_in ⟨hq0, hqn⟩) hpz.1, if_pos (by omega)] at g; omega⟩⟩⟩
        · refine s_aload_n kx_207_158 rfl ?_
          refine s_iload_n kx_207_159 rfl ?_
          refine s_callV2 (k := 63) (s1 := 2) (s2 := 0) (as := [(0, v65)]) (rest := []) kx_207_160 kp_207_404 (Or.inl rfl) rfl (tk_63 hT) ki_206 kcl_206 rfl rfl (by decide) (f_206 (d := d + 2) (r := v65) hT hI66 (RSD.fr (RSD.fr hRS61 fr63 rfl) fr66 rfl) hW) (kF (fun v90 v90p => ?_))
          have hto := v90p
          have htr := owLd_rng hW v65 (D 0 1).toNat (by omega)
          refine s_aload_n kx_207_163 rfl ?_
          refine r_getR (k := 63) (f := 22) (k2 := 72) kx_207_164 kp_207_78 (tk_63 hT) kf_12_22 (by decide) (rq_63_22 hI66) ?_
          refine s_iload_n kx_207_167 rfl ?_
          refine r_aldK (k := 72) kx_207_168 (tk_72 hT) ⟨by omega, by omega⟩ ((fr66 72 _ rfl).trans ((fr63 72 _ rfl).trans u55.1)) ?_
          refine r_add kx_207_169 ⟨by omega, by omega⟩ ?_
          refine s_aload_n kx_207_170 rfl ?_
          refine r_getR (k := 63) (f := 17) (k2 := 67) kx_207_171 kp_207_63 (tk_63 hT) kf_12_17 (by decide) (rq_63_17 hI66) ?_
          refine s_bipush (v := 8) kx_207_174 (by decide) ?_
          refine s_aload_n kx_207_176 rfl ?_
          refine r_getK (k := 63) (f := 36) kx_207_177 kp_207_121 (tk_63 hT) kf_12_36 (fun _ => rfl) ((fr66 63 36 rfl).trans ((fr63 63 36 rfl).trans ((u55.2 63 36 (by omega)).trans ((fr52 63 36 rfl).trans ((fr49 63 36 rfl).trans ((u41.2 63 36 (by omega)).trans ((fr38 63 36 rfl).trans ((fr35 63 36 rfl).trans ((u27.2 63 36 (by omega)).trans ((fr24 63 36 rfl).trans ((fr21 63 36 rfl).trans ((u13.2 63 36 (by omega)).trans ((fr10 63 36 rfl).trans ((fr5 63 36 rfl).trans v1e)))))))))))))) ?_
          refine r_mul kx_207_180 ⟨by omega, by omega⟩ ?_
          refine s_iload_n kx_207_181 rfl ?_
          refine r_add kx_207_182 ⟨by omega, by omega⟩ ?_
          refine r_aldU (k := 67) kx_207_183 (tk_67 hT) ⟨by omega, by omega⟩ (fun v91 v91e => ?_)
          have hrf : v91 = D 3 (v65).toNat := v91e.symm.trans hrr.2
          rw [hpr1] at hrf
          rw [hpr1] at hto
          refine s_icmp_le (t := 196) kx_207_184 (by decide) (fun hc92 => ?_) (fun hc92 => ?_)
          · refine s_aload_n kx_207_196 rfl ?_
            refine r_getK (k := 63) (f := 9) kx_207_197 kp_207_39 (tk_63 hT) kf_12_9 (fun _ => rfl) v72e ?_
            refine s_if_le (t := 204) kx_207_200 (by decide) (fun hc93 => ?_) (fun hc93 => absurd hc93 (by omega))
            refine s_aload_n kx_207_204 rfl ?_
            have hl94 := (show LXp M66 from (LXp.fr v62p.1 fr66 rfl)).1
            refine s_callV2 (k := 63) (s1 := 1) (s2 := 0) (as := []) (rest := []) kx_207_205 kp_207_286 (Or.inl rfl) rfl (tk_63 hT) ki_180 kcl_180 rfl rfl (by decide) (f_180 (d := d + 1) hT hI66 hpz.2.1 hpz.2.2.1 hpz.2.2.2.2.2.2.1 (owE_i2 ⟨hpz.2.2.2.1, hpz.2.2.2.2.1⟩).1 (owE_i2 ⟨hpz.2.2.2.1, hpz.2.2.2.2.1⟩).2) (kV (fun M96 hI96 fr96 v95p => ?_))
            have hFm96 := hFm66.call fr96 rfl
            have tr97 := (fr96 63 9 rfl)
            have tr98 := (fr96 63 10 rfl)
            have tr99 := rg_63_9 hI96
            refine s_aload_n kx_207_208 rfl ?_
            refine r_getR (k := 63) (f := 23) (k2 := 73) kx_207_209 kp_207_81 (tk_63 hT) kf_12_23 (by decide) (rq_63_23 hI96) ?_
            refine s_iload_n kx_207_212 rfl ?_
            refine s_iload_n kx_207_213 rfl ?_
            have hk100 : M96 63 36 = v1 := ((fr96 63 36 rfl).trans ((fr66 63 36 rfl).trans ((fr63 63 36 rfl).trans ((u55.2 63 36 (by omega)).trans ((fr52 63 36 rfl).trans ((fr49 63 36 rfl).trans ((u41.2 63 36 (by omega)).trans ((fr38 63 36 rfl).trans ((fr35 63 36 rfl).trans ((u27.2 63 36 (by omega)).trans ((fr24 63 36 rfl).trans ((fr21 63 36 rfl).trans ((u13.2 63 36 (by omega)).trans ((fr10 63 36 rfl).trans ((fr5 63 36 rfl).trans v1e)))))))))))))))
            refine r_ast (k := 73) kx_207_214 (tk_73 hT) ⟨by omega, by omega⟩ hI96 (ru_73 (by omega) (by omega)) (fun M101 hI101 u101 => ?_)
            have hFm101 := hFm96.up u101 rfl
            have tr102 := (u101.2 63 3 (by omega))
            have tr103 := (u101.2 63 4 (by omega))
            have tr104 := (u101.2 63 5 (by omega))
            have tr105 := (u101.2 63 9 (by omega))
            have tr106 := (u101.2 63 10 (by omega))
            have hRS107 := RSD.upk (RSD.fr (RSD.fr (RSD.fr hRS61 fr63 rfl) fr66 rfl) fr96 rfl) u101 (by omega) ⟨by omega, by omega⟩ (by omega)
            refine s_aload_n kx_207_215 rfl ?_
            refine r_getR (k := 63) (f := 24) (k2 := 74) kx_207_216 kp_207_84 (tk_63 hT) kf_12_24 (by decide) (rq_63_24 hI101) ?_
            refine s_iload_n kx_207_219 rfl ?_
            refine s_iconst (v := (-1)) kx_207_220 (by decide) ?_
            have hk108 : M101 63 36 = v1 := ((u101.2 63 36 (by omega)).trans ((fr96 63 36 rfl).trans ((fr66 63 36 rfl).trans ((fr63 63 36 rfl).trans ((u55.2 63 36 (by omega)).trans ((fr52 63 36 rfl).trans ((fr49 63 36 rfl).trans ((u41.2 63 36 (by omega)).trans ((fr38 63 36 rfl).trans ((fr35 63 36 rfl).trans ((u27.2 63 36 (by omega)).trans ((fr24 63 36 rfl).trans ((fr21 63 36 rfl).trans ((u13.2 63 36 (by omega)).trans ((fr10 63 36 rfl).trans ((fr5 63 36 rfl).trans v1e))))))))))))))))
            refine r_ast (k := 74) kx_207_221 (tk_74 hT) ⟨by omega, by omega⟩ hI101 (ru_74 (by omega) (by omega)) (fun M109 hI109 u109 => ?_)
            have hFm109 := hFm101.up u109 rfl
            have tr110 := (u109.2 63 3 (by omega))
            have tr111 := (u109.2 63 4 (by omega))
            have tr112 := (u109.2 63 5 (by omega))
            have tr113 := (u109.2 63 9 (by omega))
            have tr114 := (u109.2 63 10 (by omega))
            have hRS115 := RSD.upk hRS107 u109 (by omega) ⟨by omega, by omega⟩ (by omega)
            refine s_aload_n kx_207_222 rfl ?_
            refine r_getR (k := 63) (f := 19) (k2 := 69) kx_207_223 kp_207_69 (tk_63 hT) kf_12_19 (by decide) (rq_63_19 hI109) ?_
            refine s_aload_n kx_207_226 rfl ?_
            refine r_getK (k := 63) (f := 36) kx_207_227 kp_207_121 (tk_63 hT) kf_12_36 (fun _ => rfl) ((u109.2 63 36 (by omega)).trans ((u101.2 63 36 (by omega)).trans ((fr96 63 36 rfl).trans ((fr66 63 36 rfl).trans ((fr63 63 36 rfl).trans ((u55.2 63 36 (by omega)).trans ((fr52 63 36 rfl).trans ((fr49 63 36 rfl).trans ((u41.2 63 36 (by omega)).trans ((fr38 63 36 rfl).trans ((fr35 63 36 rfl).trans ((u27.2 63 36 (by omega)).trans ((fr24 63 36 rfl).trans ((fr21 63 36 rfl).trans ((u13.2 63 36 (by omega)).trans ((fr10 63 36 rfl).trans ((fr5 63 36 rfl).trans v1e))))))))))))))))) ?_
            refine s_dup2 kx_207_230 rfl rfl ?_
            refine r_aldK (k := 69) kx_207_231 (tk_69 hT) ⟨by omega, by omega⟩ ((u109.2 69 _ (by omega)).trans ((u101.2 69 _ (by omega)).trans ((fr96 69 _ rfl).trans ((fr66 69 _ rfl).trans ((fr63 69 _ rfl).trans ((u55.2 69 _ (by omega)).trans ((fr52 69 _ rfl).trans ((fr49 69 _ rfl).trans ((u41.2 69 _ (by omega)).trans ((fr38 69 _ rfl).trans ((fr35 69 _ rfl).trans ((u27.2 69 _ (by omega)).trans ((fr24 69 _ rfl).trans ((fr21 69 _ rfl).trans ((u13.2 69 _ (by omega)).trans ((fr10 69 _ rfl).trans ((fr5 69 _ rfl).trans v2e))))))))))))))))) ?_
            refine s_iconst (v := 1) kx_207_232 (by decide) ?_
            refine r_add kx_207_233 ⟨by omega, by omega⟩ ?_
            refine r_ast (k := 69) kx_207_234 (tk_69 hT) ⟨by omega, by omega⟩ hI109 (ru_69 (by omega) (by omega)) (fun M116 hI116 u116 => ?_)
            have hFm116 := hFm109.up u116 rfl
            have tr117 := (u116.2 63 3 (by omega))
            have tr118 := (u116.2 63 4 (by omega))
            have tr119 := (u116.2 63 5 (by omega))
            have tr120 := (u116.2 63 9 (by omega))
            have tr121 := (u116.2 63 10 (by omega))
            have hk122 : M116 63 9 = v72 := ((u116.2 63 9 (by omega)).trans ((u109.2 63 9 (by omega)).trans ((u101.2 63 9 (by omega)).trans ((fr96 63 9 rfl).trans v72e))))
            exact s_vret kx_207_235 kq_207 ⟨_, rfl, rfl, hI116, hFm116, ⟨(LXp.up (LXp.up (LXp.up (show LXp M96 from v95p.2.2) u101 (Or.inl (by decide))) u109 (Or.inl (by decide))) u116 (Or.inl (by decide))), by omega, by omega, by unfold PRd; omega, ⟨(by rw [← per_seq (s := s) (n := n) (D := D) (q := q) (w := v51) ⟨hq0, hqn⟩ (by omega) hpw, hm_z (hm_in ⟨hq0, hqn⟩) hpz.1, if_neg (by omega)]; exact (Yst.up (Yst.up (Yst.up (show Yst M96 s n 0 (owE s n (owE s n (owE s n (owE s n (owE s n (owE s n (owE s n (owE s n (owE s n (owE s n q)))))))))) from Or.inr ⟨rfl, by omega, v95p.1⟩) u101 ⟨by decide, Or.inl (by decide)⟩) u109 ⟨by decide, Or.inl (by decide)⟩) u116 ⟨by decide, Or.inl (by decide)⟩)), fun _ => by unfold owPerD; exact RSD.addP hRS115 ((u109.2 63 36 (by omega)).trans ((u101.2 63 36 (by omega)).trans ((fr96 63 36 rfl).trans ((fr66 63 36 rfl).trans ((fr63 63 36 rfl).trans ((u55.2 63 36 (by omega)).trans ((fr52 63 36 rfl).trans ((fr49 63 36 rfl).trans ((u41.2 63 36 (by omega)).trans ((fr38 63 36 rfl).trans ((fr35 63 36 rfl).trans ((u27.2 63 36 (by omega)).trans ((fr24 63 36 rfl).trans ((fr21 63 36 rfl).trans ((u13.2 63 36 (by omega)).trans ((fr10 63 36 rfl).trans ((fr5 63 36 rfl).trans v1e))))))))))))))))) (by omega) (by omega) (by rw [(show (8 * v1 + D 0 1).toNat = (((8 * v1) + v2)).toNat by congr 1; omega), ((u109.2 84 _ (by omega)).trans ((u101.2 84 _ (by omega)).trans ((fr96 84 _ rfl).trans ((fr66 84 _ rfl).trans ((fr63 84 _ rfl).trans ((u55.2 84 _ (by omega)).trans ((fr52 84 _ rfl).trans ((fr49 84 _ rfl).trans ((u41.2 84 _ (by omega)).trans ((fr38 84 _ rfl).trans ((fr35 84 _ rfl).trans ((u27.2 84 _ (by omega)).trans ((fr24 84 _ rfl).trans ((fr21 84 _ rfl).trans u13.1))))))))))))))]; exact v9p.2.2.2.2.2 z1) (by rw [(show (8 * v1 + D 0 1).toNat = (((8 * v1) + v2)).toNat by congr 1; omega), ((u109.2 70 _ (by omega)).trans ((u101.2 70 _ (by omega)).trans ((fr96 70 _ rfl).trans ((fr66 70 _ rfl).trans ((fr63 70 _ rfl).trans ((u55.2 70 _ (by omega)).trans ((fr52 70 _ rfl).trans ((fr49 70 _ rfl).trans ((u41.2 70 _ (by omega)).trans ((fr38 70 _ rfl).trans ((fr35 70 _ rfl).trans u27.1)))))))))))]; exact v23p.2.2.2.2.2 z2) (by rw [(show (8 * v1 + D 0 1).toNat = (((8 * v1) + v2)).toNat by congr 1; omega), ((u109.2 71 _ (by omega)).trans ((u101.2 71 _ (by omega)).trans ((fr96 71 _ rfl).trans ((fr66 71 _ rfl).trans ((fr63 71 _ rfl).trans ((u55.2 71 _ (by omega)).trans ((fr52 71 _ rfl).trans ((fr49 71 _ rfl).trans u41.1))))))))]; exact v37p.2.2.2.2.2 z3) (by rw [(show (8 * v1 + D 0 1).toNat = (((8 * v1) + v2)).toNat by congr 1; omega), ((u109.2 72 _ (by omega)).trans ((u101.2 72 _ (by omega)).trans ((fr96 72 _ rfl).trans ((fr66 72 _ rfl).trans ((fr63 72 _ rfl).trans u55.1)))))]; exact hpw) (by rw [(show (8 * v1 + D 0 1).toNat = (((8 * v1) + v2)).toNat by congr 1; omega)]; exact u109.1) (by rw [(show (8 * v1 + D 0 1).toNat = (((8 * v1) + v2)).toNat by congr 1; omega), ((u109.2 73 _ (by omega)).trans u101.1)]; exact hpr1) (by rw [show D 0 1 + 1 = (v2 + 1) by omega]; exact u116)⟩⟩⟩
          · refine s_aload_n kx_207_187 rfl ?_
            refine s_iconst (v := 3) kx_207_188 (by decide) ?_
            refine s_aload_n kx_207_189 rfl ?_
            refine r_getI (k := 63) (f := 4) kx_207_190 kp_207_23 (tk_63 hT) kf_12_4 (fun _ => rfl) (rg_63_4 hI66) (fun v123 v123e v123a v123b => ?_)
            refine s_callV2 (k := 63) (s1 := 3) (s2 := 0) (as := [(0, v123), (0, 3)]) (rest := []) kx_207_193 kp_207_263 (Or.inl rfl) rfl (tk_63 hT) ki_176 kcl_176 rfl rfl (by decide) (f_176 (d := d + 2) (kind := 3) (place := v123) hT hI66 (by omega)) (kV (fun M125 hI125 fr125 v124p => ?_))
            have hFm125 := hFm66.call fr125 rfl
            have tr126 := (fr125 63 3 rfl)
            have tr127 := (fr125 63 4 rfl)
            have tr128 := (fr125 63 5 rfl)
            have tr129 := (fr125 63 6 rfl)
            have tr130 := rg_63_9 hI125
            refine s_aload_n kx_207_196 rfl ?_
            refine r_getI (k := 63) (f := 9) kx_207_197 kp_207_39 (tk_63 hT) kf_12_9 (fun _ => rfl) (rg_63_9 hI125) (fun v131 v131e v131a v131b => ?_)
            refine s_if_le (t := 204) kx_207_200 (by decide) (fun hc132 => ?_) (fun hc132 => ?_)
            · exact absurd h639 (by omega)
            · have hk133 : M125 63 4 = v123 := ((fr125 63 4 rfl).trans v123e)
              have hk134 : M125 63 9 = v131 := v131e
              exact s_vret kx_207_203 kq_207 ⟨_, rfl, rfl, hI125, hFm125, ⟨(LXp.fr (LXp.fr v62p.1 fr66 rfl) fr125 rfl), by omega, by omega, by unfold PRd; omega, ⟨(by rw [← per_seq (s := s) (n := n) (D := D) (q := q) (w := v51) ⟨hq0, hqn⟩ (by omega) hpw, hm_z (hm_in ⟨hq0, hqn⟩) hpz.1, if_pos (by omega)]; exact yst_bl (k := 3) (x := owB s n (owE s n (owE s n (owE s n (owE s n (owE s n (owE s n (owE s n (owE s n (owE s n q)))))))))) (by omega) (by omega) (by decide) (by omega) (by omega)), fun g => by exfalso; rw [← per_seq (s := s) (n := n) (D := D) (q := q) (w := v51) ⟨hq0, hqn⟩ (by omega) hpw, hm_z (hm_in ⟨hq0, hqn⟩) hpz.1, if_pos (by omega)] at g; omega⟩⟩⟩
    · have hc135 := v4p.2.2.2.resolve_left (by omega)
      have hc135a := hc135.2.1
      exact s_vret kx_207_26 kq_207 ⟨_, rfl, rfl, hI5, hFm5, ⟨v4p.1, by omega, by omega, by unfold PRd; omega, ⟨(Or.inl (by rw [show owPerF s n D q = 60000 + owB s n q by unfold owPerF; (repeat' split) <;> omega]; exact hc135.2.2.1)), fun g => by exfalso; rw [show owPerF s n D q = 60000 + owB s n q by unfold owPerF; (repeat' split) <;> omega] at g; exact hc135.2.2.1.1 g⟩⟩⟩
  · refine s_iconst (v := 1) kx_207_15 (by decide) ?_
    refine s_goto (t := 20) kx_207_16 (by decide) ?_
    refine s_callV2 (k := 63) (s1 := 2) (s2 := 0) (as := [(0, 1)]) (rest := []) kx_207_20 kp_207_386 (Or.inl rfl) rfl (tk_63 hT) ki_199 kcl_199 rfl rfl (by decide) (f_199 (d := d) (full := 1) hT hI hX hY hn (by omega)) (kW (fun v136 M137 hI137 fr137 v136p => ?_))
    have hFm137 := hFm.call fr137 rfl
    have tr138 := rg_63_9 hI137
    refine s_if_ne (t := 27) kx_207_23 (by decide) (fun hc139 => ?_) (fun hc139 => ?_)
    · have hc140 := v136p.2.2.2.resolve_right (by omega)
      have hc140a := hc140.2.1
      refine s_bipush (v := 8) kx_207_27 (by decide) ?_
      refine s_aload_n kx_207_29 rfl ?_
      refine r_getK (k := 63) (f := 36) kx_207_30 kp_207_121 (tk_63 hT) kf_12_36 (fun _ => rfl) ((fr137 63 36 rfl).trans v1e) ?_
      refine r_mul kx_207_33 ⟨by omega, by omega⟩ ?_
      refine s_aload_n kx_207_34 rfl ?_
      refine r_getR (k := 63) (f := 19) (k2 := 69) kx_207_35 kp_207_69 (tk_63 hT) kf_12_19 (by decide) (rq_63_19 hI137) ?_
      refine s_aload_n kx_207_38 rfl ?_
      refine r_getK (k := 63) (f := 36) kx_207_39 kp_207_121 (tk_63 hT) kf_12_36 (fun _ => rfl) ((fr137 63 36 rfl).trans v1e) ?_
      refine r_aldK (k := 69) kx_207_42 (tk_69 hT) ⟨by omega, by omega⟩ ((fr137 69 _ rfl).trans v2e) ?_
      refine r_add kx_207_43 ⟨by omega, by omega⟩ ?_
      refine s_istore_n kx_207_44 km_207_1 rfl ?_
      refine s_aload_n kx_207_45 rfl ?_
      refine r_getR (k := 63) (f := 34) (k2 := 84) kx_207_46 kp_207_115 (tk_63 hT) kf_12_34 (by decide) (rq_63_34 hI137) ?_
      refine s_iload_n kx_207_49 rfl ?_
      refine s_aload_n kx_207_50 rfl ?_
      refine s_callV2 (k := 63) (s1 := 1) (s2 := 2) (as := []) (rest := [(0, ((8 * v1) + v2)), rf 84]) kx_207_51 kp_207_390 (Or.inl rfl) rfl (tk_63 hT) ki_201 kcl_201 rfl rfl (by decide) (f_201 (d := d) hT hI137 v136p.1 (show Yst M137 s n 0 (owE s n q) from Or.inr ⟨rfl, hc140.2.1.2.2, hc140.2.2⟩) hn (RSD.fr hR fr137 rfl)) (kW (fun v141 M142 hI142 fr142 v141p => ?_))
      have hFm142 := hFm137.call fr142 rfl
      have tr143 := rg_63_9 hI142
      have hk144 : M142 63 36 = v1 := ((fr142 63 36 rfl).trans ((fr137 63 36 rfl).trans v1e))
      refine r_last (k := 84) kx_207_54 (tk_84 hT) ⟨by omega, by omega⟩ hI142 ru_84 (fun M145 hI145 u145 => ?_)
      have hFm145 := hFm142.up u145 rfl
      have tr146 := (u145.2 63 3 (by omega))
      have tr147 := (u145.2 63 4 (by omega))
      have tr148 := (u145.2 63 5 (by omega))
      have tr149 := (u145.2 63 9 (by omega))
      have tr150 := (u145.2 63 10 (by omega))
      have hRS151 := RSD.upk (RSD.fr (RSD.fr hR fr137 rfl) fr142 rfl) u145 (by omega) ⟨by omega, by omega⟩ (by omega)
      refine s_aload_n kx_207_55 rfl ?_
      refine s_ldc2_w kx_207_56 kp_207_301 ?_
      refine s_callV2 (k := 63) (s1 := 3) (s2 := 0) (as := [(1, 126943973305959)]) (rest := []) kx_207_59 kp_207_394 (Or.inl rfl) rfl (tk_63 hT) ki_200 kcl_200 rfl rfl (by decide) (f_200 (d := d) (w := 126943973305959) hT hI145 (LXp.up v141p.1 u145 (Or.inl (by decide))) (Yst.up v141p.2.2.2.2.1 u145 ⟨by decide, Or.inl (by decide)⟩) hn (w5 := 659111367) n58_strong (Or.inr (by decide)) (by omega)) (kV (fun M153 hI153 fr153 v152p => ?_))
      have hFm153 := hFm145.call fr153 rfl
      have tr154 := rg_63_9 hI153
      refine s_aload_n kx_207_62 rfl ?_
      refine r_getR (k := 63) (f := 20) (k2 := 70) kx_207_63 kp_207_72 (tk_63 hT) kf_12_20 (by decide) (rq_63_20 hI153) ?_
      refine s_iload_n kx_207_66 rfl ?_
      refine s_aload_n kx_207_67 rfl ?_
      refine s_iconst (v := 1) kx_207_68 (by decide) ?_
      refine s_bipush (v := 99) kx_207_69 (by decide) ?_
      refine s_callV2 (k := 63) (s1 := 3) (s2 := 2) (as := [(0, 99), (0, 1)]) (rest := [(0, ((8 * v1) + v2)), rf 70]) kx_207_71 kp_207_398 (Or.inl rfl) rfl (tk_63 hT) ki_188 kcl_188 rfl rfl (by decide) (f_188 (d := d) (low := 1) (high := 99) hT hI153 v152p.1 v152p.2.2.2.2 hn) (kW (fun v155 M156 hI156 fr156 v155p => ?_))
      have hFm156 := hFm153.call fr156 rfl
      have tr157 := rg_63_9 hI156
      have hk158 : M156 63 36 = v1 := ((fr156 63 36 rfl).trans ((fr153 63 36 rfl).trans ((u145.2 63 36 (by omega)).trans ((fr142 63 36 rfl).trans ((fr137 63 36 rfl).trans v1e)))))
      refine r_ast (k := 70) kx_207_74 (tk_70 hT) ⟨by omega, by omega⟩ hI156 ru_70 (fun M159 hI159 u159 => ?_)
      have hFm159 := hFm156.up u159 rfl
      have tr160 := (u159.2 63 3 (by omega))
      have tr161 := (u159.2 63 4 (by omega))
      have tr162 := (u159.2 63 5 (by omega))
      have tr163 := (u159.2 63 9 (by omega))
      have tr164 := (u159.2 63 10 (by omega))
      have hRS165 := RSD.upk (RSD.fr (RSD.fr hRS151 fr153 rfl) fr156 rfl) u159 (by omega) ⟨by omega, by omega⟩ (by omega)
      refine s_aload_n kx_207_75 rfl ?_
      refine s_ldc2_w kx_207_76 kp_207_303 ?_
      refine s_callV2 (k := 63) (s1 := 3) (s2 := 0) (as := [(1, 426952976754)]) (rest := []) kx_207_79 kp_207_394 (Or.inl rfl) rfl (tk_63 hT) ki_200 kcl_200 rfl rfl (by decide) (f_200 (d := d) (w := 426952976754) hT hI159 (LXp.up v155p.1 u159 (Or.inl (by decide))) (Yst.up v155p.2.2.2.2.1 u159 ⟨by decide, Or.inl (by decide)⟩) hn (w5 := 109094464) n58_chair (Or.inr (by decide)) (by omega)) (kV (fun M167 hI167 fr167 v166p => ?_))
      have hFm167 := hFm159.call fr167 rfl
      have tr168 := rg_63_9 hI167
      refine s_aload_n kx_207_82 rfl ?_
      refine r_getR (k := 63) (f := 21) (k2 := 71) kx_207_83 kp_207_75 (tk_63 hT) kf_12_21 (by decide) (rq_63_21 hI167) ?_
      refine s_iload_n kx_207_86 rfl ?_
      refine s_aload_n kx_207_87 rfl ?_
      refine s_iconst (v := 1) kx_207_88 (by decide) ?_
      refine s_bipush (v := 99) kx_207_89 (by decide) ?_
      refine s_callV2 (k := 63) (s1 := 3) (s2 := 2) (as := [(0, 99), (0, 1)]) (rest := [(0, ((8 * v1) + v2)), rf 71]) kx_207_91 kp_207_398 (Or.inl rfl) rfl (tk_63 hT) ki_188 kcl_188 rfl rfl (by decide) (f_188 (d := d) (low := 1) (high := 99) hT hI167 v166p.1 v166p.2.2.2.2 hn) (kW (fun v169 M170 hI170 fr170 v169p => ?_))
      have hFm170 := hFm167.call fr170 rfl
      have tr171 := rg_63_9 hI170
      have hk172 : M170 63 36 = v1 := ((fr170 63 36 rfl).trans ((fr167 63 36 rfl).trans ((u159.2 63 36 (by omega)).trans ((fr156 63 36 rfl).trans ((fr153 63 36 rfl).trans ((u145.2 63 36 (by omega)).trans ((fr142 63 36 rfl).trans ((fr137 63 36 rfl).trans v1e))))))))
      refine r_ast (k := 71) kx_207_94 (tk_71 hT) ⟨by omega, by omega⟩ hI170 ru_71 (fun M173 hI173 u173 => ?_)
      have hFm173 := hFm170.up u173 rfl
      have tr174 := (u173.2 63 3 (by omega))
      have tr175 := (u173.2 63 4 (by omega))
      have tr176 := (u173.2 63 5 (by omega))
      have tr177 := (u173.2 63 9 (by omega))
      have tr178 := (u173.2 63 10 (by omega))
      have hRS179 := RSD.upk (RSD.fr (RSD.fr hRS165 fr167 rfl) fr170 rfl) u173 (by omega) ⟨by omega, by omega⟩ (by omega)
      refine s_aload_n kx_207_95 rfl ?_
      refine s_ldc2_w kx_207_96 kp_207_305 ?_
      refine s_callV2 (k := 63) (s1 := 3) (s2 := 0) (as := [(1, 2003395685)]) (rest := []) kx_207_99 kp_207_394 (Or.inl rfl) rfl (tk_63 hT) ki_200 kcl_200 rfl rfl (by decide) (f_200 (d := d) (w := 2003395685) hT hI173 (LXp.up v169p.1 u173 (Or.inl (by decide))) (Yst.up v169p.2.2.2.2.1 u173 ⟨by decide, Or.inl (by decide)⟩) hn (w5 := 781325312) n58_wide (Or.inr (by decide)) (by omega)) (kV (fun M181 hI181 fr181 v180p => ?_))
      have hFm181 := hFm173.call fr181 rfl
      have tr182 := rg_63_9 hI181
      refine s_aload_n kx_207_102 rfl ?_
      refine r_getR (k := 63) (f := 22) (k2 := 72) kx_207_103 kp_207_78 (tk_63 hT) kf_12_22 (by decide) (rq_63_22 hI181) ?_
      refine s_iload_n kx_207_106 rfl ?_
      refine s_aload_n kx_207_107 rfl ?_
      refine s_iconst (v := 1) kx_207_108 (by decide) ?_
      refine s_bipush (v := 9) kx_207_109 (by decide) ?_
      refine s_callV2 (k := 63) (s1 := 3) (s2 := 2) (as := [(0, 9), (0, 1)]) (rest := [(0, ((8 * v1) + v2)), rf 72]) kx_207_111 kp_207_398 (Or.inl rfl) rfl (tk_63 hT) ki_188 kcl_188 rfl rfl (by decide) (f_188 (d := d) (low := 1) (high := 9) hT hI181 v180p.1 v180p.2.2.2.2 hn) (kW (fun v183 M184 hI184 fr184 v183p => ?_))
      have hFm184 := hFm181.call fr184 rfl
      have tr185 := rg_63_9 hI184
      have hk186 : M184 63 36 = v1 := ((fr184 63 36 rfl).trans ((fr181 63 36 rfl).trans ((u173.2 63 36 (by omega)).trans ((fr170 63 36 rfl).trans ((fr167 63 36 rfl).trans ((u159.2 63 36 (by omega)).trans ((fr156 63 36 rfl).trans ((fr153 63 36 rfl).trans ((u145.2 63 36 (by omega)).trans ((fr142 63 36 rfl).trans ((fr137 63 36 rfl).trans v1e)))))))))))
      refine r_ast (k := 72) kx_207_114 (tk_72 hT) ⟨by omega, by omega⟩ hI184 ru_72 (fun M187 hI187 u187 => ?_)
      have hFm187 := hFm184.up u187 rfl
      have tr188 := (u187.2 63 3 (by omega))
      have tr189 := (u187.2 63 4 (by omega))
      have tr190 := (u187.2 63 5 (by omega))
      have tr191 := (u187.2 63 9 (by omega))
      have tr192 := (u187.2 63 10 (by omega))
      have hRS193 := RSD.upk (RSD.fr (RSD.fr hRS179 fr181 rfl) fr184 rfl) u187 (by omega) ⟨by omega, by omega⟩ (by omega)
      refine s_aload_n kx_207_115 rfl ?_
      refine s_ldc2_w kx_207_116 kp_207_307 ?_
      refine s_callV2 (k := 63) (s1 := 3) (s2 := 0) (as := [(1, 24948)]) (rest := []) kx_207_119 kp_207_394 (Or.inl rfl) rfl (tk_63 hT) ki_200 kcl_200 rfl rfl (by decide) (f_200 (d := d) (w := 24948) hT hI187 (LXp.up v183p.1 u187 (Or.inl (by decide))) (Yst.up v183p.2.2.2.2.1 u187 ⟨by decide, Or.inl (by decide)⟩) hn (w5 := 54525952) n58_at (Or.inr (by decide)) (by omega)) (kV (fun M195 hI195 fr195 v194p => ?_))
      have hFm195 := hFm187.call fr195 rfl
      have tr196 := rg_63_9 hI195
      refine s_aload_n kx_207_122 rfl ?_
      refine s_iconst (v := 0) kx_207_123 (by decide) ?_
      refine s_callV2 (k := 63) (s1 := 2) (s2 := 0) (as := [(0, 0)]) (rest := []) kx_207_124 kp_207_383 (Or.inl rfl) rfl (tk_63 hT) ki_202 kcl_202 rfl rfl (by decide) (f_202 (d := d) (kind := 0) hT hI195 v194p.2.2.2.2 hn (RSD.fr hRS193 fr195 rfl) (by omega)) (kW (fun v197 M198 hI198 fr198 v197p => ?_))
      have hFm198 := hFm195.call fr198 rfl
      have tr199 := (fr198 63 3 rfl)
      have tr200 := (fr198 63 4 rfl)
      have tr201 := (fr198 63 5 rfl)
      have tr202 := (fr198 63 6 rfl)
      have tr203 := rg_63_9 hI198
      refine s_istore_n kx_207_127 km_207_2 rfl ?_
      refine s_aload_n kx_207_128 rfl ?_
      refine r_getI (k := 63) (f := 9) kx_207_129 kp_207_39 (tk_63 hT) kf_12_9 (fun _ => rfl) (rg_63_9 hI198) (fun v204 v204e v204a v204b => ?_)
      refine s_if_ne (t := 196) kx_207_132 (by decide) (fun hc205 => ?_) (fun hc205 => ?_)
      · refine s_aload_n kx_207_196 rfl ?_
        refine r_getK (k := 63) (f := 9) kx_207_197 kp_207_39 (tk_63 hT) kf_12_9 (fun _ => rfl) v204e ?_
        refine s_if_le (t := 204) kx_207_200 (by decide) (fun hc206 => absurd hc206 (by omega)) (fun hc206 => ?_)
        have hk207 : M198 63 9 = v204 := v204e
        exact s_vret kx_207_203 kq_207 ⟨_, rfl, rfl, hI198, hFm198, ⟨(LXp.fr v194p.1 fr198 rfl), by omega, by omega, by unfold PRd; omega, ⟨(by rw [← per_seq (s := s) (n := n) (D := D) (q := q) (w := owV s n (owE s n (owE s n (owE s n (owE s n (owE s n (owE s n (owE s n q)))))))) ⟨hq0, hqn⟩ (by omega) rfl, hm_pos (hm_in ⟨hq0, hqn⟩) (Yst.pos v197p.2.2.2.2.1 (by omega)).1]; exact yst_is rfl v197p.2.2.2.2.1 (Yst.pos v197p.2.2.2.2.1 (by omega)).1), fun g => by rw [← per_seq (s := s) (n := n) (D := D) (q := q) (w := owV s n (owE s n (owE s n (owE s n (owE s n (owE s n (owE s n (owE s n q)))))))) ⟨hq0, hqn⟩ (by omega) rfl, hm_pos (hm_in ⟨hq0, hqn⟩) (Yst.pos v197p.2.2.2.2.1 (by omega)).1] at g; exact absurd g (Yst.pos v197p.2.2.2.2.1 (by omega)).1⟩⟩⟩
      · have hpz := (Yst.zero v197p.2.2.2.2.1 (by omega))
        have hpr := (v197p.2.2.2.2.2 hpz.1)
        have hpr1 := hpr.1
        rw [yRi] at hpr1
        have hpc : yCt D 0 = D 0 0 := rfl
        have hpr2 := hpr.2.1
        have z5 := yKr_f hpz.1
        have z4 := yMu_f z5
        have hpw := v183p.2.2.2.2.2 z4
        have hpl := hpz.2.b hn
        have hpp := hpz.2.2.2.1
        have z3 := yMu_f (yNu_f z4)
        have z2 := yMu_f (yNu_f z3)
        have z1 := yMu_f (yNu_f z2)
        refine s_aload_n kx_207_135 rfl ?_
        refine r_getR (k := 63) (f := 16) (k2 := 66) kx_207_136 kp_207_60 (tk_63 hT) kf_12_16 (by decide) (rq_63_16 hI198) ?_
        refine s_bipush (v := 8) kx_207_139 (by decide) ?_
        refine s_aload_n kx_207_141 rfl ?_
        refine r_getK (k := 63) (f := 36) kx_207_142 kp_207_121 (tk_63 hT) kf_12_36 (fun _ => rfl) ((fr198 63 36 rfl).trans ((fr195 63 36 rfl).trans ((u187.2 63 36 (by omega)).trans ((fr184 63 36 rfl).trans ((fr181 63 36 rfl).trans ((u173.2 63 36 (by omega)).trans ((fr170 63 36 rfl).trans ((fr167 63 36 rfl).trans ((u159.2 63 36 (by omega)).trans ((fr156 63 36 rfl).trans ((fr153 63 36 rfl).trans ((u145.2 63 36 (by omega)).trans ((fr142 63 36 rfl).trans ((fr137 63 36 rfl).trans v1e)))))))))))))) ?_
        refine r_mul kx_207_145 ⟨by omega, by omega⟩ ?_
        refine s_iload_n kx_207_146 rfl ?_
        refine r_add kx_207_147 ⟨by omega, by omega⟩ ?_
        refine r_aldU (k := 66) kx_207_148 (tk_66 hT) ⟨by omega, by omega⟩ (fun v208 v208e => ?_)
        refine s_aload_n kx_207_149 rfl ?_
        refine r_getR (k := 63) (f := 22) (k2 := 72) kx_207_150 kp_207_78 (tk_63 hT) kf_12_22 (by decide) (rq_63_22 hI198) ?_
        refine s_iload_n kx_207_153 rfl ?_
        refine r_aldK (k := 72) kx_207_154 (tk_72 hT) ⟨by omega, by omega⟩ ((fr198 72 _ rfl).trans ((fr195 72 _ rfl).trans u187.1)) ?_
        have hrr := (RSD.fr (RSD.fr hRS193 fr195 rfl) fr198 rfl).room ((fr198 63 36 rfl).trans ((fr195 63 36 rfl).trans ((u187.2 63 36 (by omega)).trans ((fr184 63 36 rfl).trans ((fr181 63 36 rfl).trans ((u173.2 63 36 (by omega)).trans ((fr170 63 36 rfl).trans ((fr167 63 36 rfl).trans ((u159.2 63 36 (by omega)).trans ((fr156 63 36 rfl).trans ((fr153 63 36 rfl).trans ((u145.2 63 36 (by omega)).trans ((fr142 63 36 rfl).trans ((fr137 63 36 rfl).trans v1e)))))))))))))) (j := v197) (by omega) (by omega)
        have hrd : v208 = D 2 (v197).toNat := v208e.symm.trans hrr.1
        rw [hpr1] at hrd
        have hwr : 1 ≤ v183 ∧ v183 ≤ 9 := by have hnb := v183p.2.2.2.1; unfold NBd at hnb; omega
        refine s_icmp_lt (t := 187) kx_207_155 (by decide) (fun hc209 => ?_) (fun hc209 => ?_)
        · refine s_aload_n kx_207_187 rfl ?_
          refine s_iconst (v := 3) kx_207_188 (by decide) ?_
          refine s_aload_n kx_207_189 rfl ?_
          refine r_getI (k := 63) (f := 4) kx_207_190 kp_207_23 (tk_63 hT) kf_12_4 (fun _ => rfl) (rg_63_4 hI198) (fun v210 v210e v210a v210b => ?_)
          refine s_callV2 (k := 63) (s1 := 3) (s2 := 0) (as := [(0, v210), (0, 3)]) (rest := []) kx_207_193 kp_207_263 (Or.inl rfl) rfl (tk_63 hT) ki_176 kcl_176 rfl rfl (by decide) (f_176 (d := d + 2) (kind := 3) (place := v210) hT hI198 (by omega)) (kV (fun M212 hI212 fr212 v211p => ?_))
          have hFm212 := hFm198.call fr212 rfl
          have tr213 := (fr212 63 3 rfl)
          have tr214 := (fr212 63 4 rfl)
          have tr215 := (fr212 63 5 rfl)
          have tr216 := (fr212 63 6 rfl)
          have tr217 := rg_63_9 hI212
          refine s_aload_n kx_207_196 rfl ?_
          refine r_getI (k := 63) (f := 9) kx_207_197 kp_207_39 (tk_63 hT) kf_12_9 (fun _ => rfl) (rg_63_9 hI212) (fun v218 v218e v218a v218b => ?_)
          refine s_if_le (t := 204) kx_207_200 (by decide) (fun hc219 => ?_) (fun hc219 => ?_)
          · exact absurd h639 (by omega)
          · have hk220 : M212 63 4 = v210 := ((fr212 63 4 rfl).trans v210e)
            have hk221 : M212 63 9 = v218 := v218e
            exact s_vret kx_207_203 kq_207 ⟨_, rfl, rfl, hI212, hFm212, ⟨(LXp.fr (LXp.fr v194p.1 fr198 rfl) fr212 rfl), by omega, by omega, by unfold PRd; omega, ⟨(by rw [← per_seq (s := s) (n := n) (D := D) (q := q) (w := v183) ⟨hq0, hqn⟩ (by omega) hpw, hm_z (hm_in ⟨hq0, hqn⟩) hpz.1, if_pos (by omega)]; exact yst_bl (k := 3) (x := owB s n (owE s n (owE s n (owE s n (owE s n (owE s n (owE s n (owE s n (owE s n (owE s n q)))))))))) (by omega) (by omega) (by decide) (by omega) (by omega)), fun g => by exfalso; rw [← per_seq (s := s) (n := n) (D := D) (q := q) (w := v183) ⟨hq0, hqn⟩ (by omega) hpw, hm_z (hm_in ⟨hq0, hqn⟩) hpz.1, if_pos (by omega)] at g; omega⟩⟩⟩
        · refine s_aload_n kx_207_158 rfl ?_
          refine s_iload_n kx_207_159 rfl ?_
          refine s_callV2 (k := 63) (s1 := 2) (s2 := 0) (as := [(0, v197)]) (rest := []) kx_207_160 kp_207_404 (Or.inl rfl) rfl (tk_63 hT) ki_206 kcl_206 rfl rfl (by decide) (f_206 (d := d + 2) (r := v197) hT hI198 (RSD.fr (RSD.fr hRS193 fr195 rfl) fr198 rfl) hW) (kF (fun v222 v222p => ?_))
          have hto := v222p
          have htr := owLd_rng hW v197 (D 0 1).toNat (by omega)
          refine s_aload_n kx_207_163 rfl ?_
          refine r_getR (k := 63) (f := 22) (k2 := 72) kx_207_164 kp_207_78 (tk_63 hT) kf_12_22 (by decide) (rq_63_22 hI198) ?_
          refine s_iload_n kx_207_167 rfl ?_
          refine r_aldK (k := 72) kx_207_168 (tk_72 hT) ⟨by omega, by omega⟩ ((fr198 72 _ rfl).trans ((fr195 72 _ rfl).trans u187.1)) ?_
          refine r_add kx_207_169 ⟨by omega, by omega⟩ ?_
          refine s_aload_n kx_207_170 rfl ?_
          refine r_getR (k := 63) (f := 17) (k2 := 67) kx_207_171 kp_207_63 (tk_63 hT) kf_12_17 (by decide) (rq_63_17 hI198) ?_
          refine s_bipush (v := 8) kx_207_174 (by decide) ?_
          refine s_aload_n kx_207_176 rfl ?_
          refine r_getK (k := 63) (f := 36) kx_207_177 kp_207_121 (tk_63 hT) kf_12_36 (fun _ => rfl) ((fr198 63 36 rfl).trans ((fr195 63 36 rfl).trans ((u187.2 63 36 (by omega)).trans ((fr184 63 36 rfl).trans ((fr181 63 36 rfl).trans ((u173.2 63 36 (by omega)).trans ((fr170 63 36 rfl).trans ((fr167 63 36 rfl).trans ((u159.2 63 36 (by omega)).trans ((fr156 63 36 rfl).trans ((fr153 63 36 rfl).trans ((u145.2 63 36 (by omega)).trans ((fr142 63 36 rfl).trans ((fr137 63 36 rfl).trans v1e)))))))))))))) ?_
          refine r_mul kx_207_180 ⟨by omega, by omega⟩ ?_
          refine s_iload_n kx_207_181 rfl ?_
          refine r_add kx_207_182 ⟨by omega, by omega⟩ ?_
          refine r_aldU (k := 67) kx_207_183 (tk_67 hT) ⟨by omega, by omega⟩ (fun v223 v223e => ?_)
          have hrf : v223 = D 3 (v197).toNat := v223e.symm.trans hrr.2
          rw [hpr1] at hrf
          rw [hpr1] at hto
          refine s_icmp_le (t := 196) kx_207_184 (by decide) (fun hc224 => ?_) (fun hc224 => ?_)
          · refine s_aload_n kx_207_196 rfl ?_
            refine r_getK (k := 63) (f := 9) kx_207_197 kp_207_39 (tk_63 hT) kf_12_9 (fun _ => rfl) v204e ?_
            refine s_if_le (t := 204) kx_207_200 (by decide) (fun hc225 => ?_) (fun hc225 => absurd hc225 (by omega))
            refine s_aload_n kx_207_204 rfl ?_
            have hl226 := (show LXp M198 from (LXp.fr v194p.1 fr198 rfl)).1
            refine s_callV2 (k := 63) (s1 := 1) (s2 := 0) (as := []) (rest := []) kx_207_205 kp_207_286 (Or.inl rfl) rfl (tk_63 hT) ki_180 kcl_180 rfl rfl (by decide) (f_180 (d := d + 1) hT hI198 hpz.2.1 hpz.2.2.1 hpz.2.2.2.2.2.2.1 (owE_i2 ⟨hpz.2.2.2.1, hpz.2.2.2.2.1⟩).1 (owE_i2 ⟨hpz.2.2.2.1, hpz.2.2.2.2.1⟩).2) (kV (fun M228 hI228 fr228 v227p => ?_))
            have hFm228 := hFm198.call fr228 rfl
            have tr229 := (fr228 63 9 rfl)
            have tr230 := (fr228 63 10 rfl)
            have tr231 := rg_63_9 hI228
            refine s_aload_n kx_207_208 rfl ?_
            refine r_getR (k := 63) (f := 23) (k2 := 73) kx_207_209 kp_207_81 (tk_63 hT) kf_12_23 (by decide) (rq_63_23 hI228) ?_
            refine s_iload_n kx_207_212 rfl ?_
            refine s_iload_n kx_207_213 rfl ?_
            have hk232 : M228 63 36 = v1 := ((fr228 63 36 rfl).trans ((fr198 63 36 rfl).trans ((fr195 63 36 rfl).trans ((u187.2 63 36 (by omega)).trans ((fr184 63 36 rfl).trans ((fr181 63 36 rfl).trans ((u173.2 63 36 (by omega)).trans ((fr170 63 36 rfl).trans ((fr167 63 36 rfl).trans ((u159.2 63 36 (by omega)).trans ((fr156 63 36 rfl).trans ((fr153 63 36 rfl).trans ((u145.2 63 36 (by omega)).trans ((fr142 63 36 rfl).trans ((fr137 63 36 rfl).trans v1e)))))))))))))))
            refine r_ast (k := 73) kx_207_214 (tk_73 hT) ⟨by omega, by omega⟩ hI228 (ru_73 (by omega) (by omega)) (fun M233 hI233 u233 => ?_)
            have hFm233 := hFm228.up u233 rfl
            have tr234 := (u233.2 63 3 (by omega))
            have tr235 := (u233.2 63 4 (by omega))
            have tr236 := (u233.2 63 5 (by omega))
            have tr237 := (u233.2 63 9 (by omega))
            have tr238 := (u233.2 63 10 (by omega))
            have hRS239 := RSD.upk (RSD.fr (RSD.fr (RSD.fr hRS193 fr195 rfl) fr198 rfl) fr228 rfl) u233 (by omega) ⟨by omega, by omega⟩ (by omega)
            refine s_aload_n kx_207_215 rfl ?_
            refine r_getR (k := 63) (f := 24) (k2 := 74) kx_207_216 kp_207_84 (tk_63 hT) kf_12_24 (by decide) (rq_63_24 hI233) ?_
            refine s_iload_n kx_207_219 rfl ?_
            refine s_iconst (v := (-1)) kx_207_220 (by decide) ?_
            have hk240 : M233 63 36 = v1 := ((u233.2 63 36 (by omega)).trans ((fr228 63 36 rfl).trans ((fr198 63 36 rfl).trans ((fr195 63 36 rfl).trans ((u187.2 63 36 (by omega)).trans ((fr184 63 36 rfl).trans ((fr181 63 36 rfl).trans ((u173.2 63 36 (by omega)).trans ((fr170 63 36 rfl).trans ((fr167 63 36 rfl).trans ((u159.2 63 36 (by omega)).trans ((fr156 63 36 rfl).trans ((fr153 63 36 rfl).trans ((u145.2 63 36 (by omega)).trans ((fr142 63 36 rfl).trans ((fr137 63 36 rfl).trans v1e))))))))))))))))
            refine r_ast (k := 74) kx_207_221 (tk_74 hT) ⟨by omega, by omega⟩ hI233 (ru_74 (by omega) (by omega)) (fun M241 hI241 u241 => ?_)
            have hFm241 := hFm233.up u241 rfl
            have tr242 := (u241.2 63 3 (by omega))
            have tr243 := (u241.2 63 4 (by omega))
            have tr244 := (u241.2 63 5 (by omega))
            have tr245 := (u241.2 63 9 (by omega))
            have tr246 := (u241.2 63 10 (by omega))
            have hRS247 := RSD.upk hRS239 u241 (by omega) ⟨by omega, by omega⟩ (by omega)
            refine s_aload_n kx_207_222 rfl ?_
            refine r_getR (k := 63) (f := 19) (k2 := 69) kx_207_223 kp_207_69 (tk_63 hT) kf_12_19 (by decide) (rq_63_19 hI241) ?_
            refine s_aload_n kx_207_226 rfl ?_
            refine r_getK (k := 63) (f := 36) kx_207_227 kp_207_121 (tk_63 hT) kf_12_36 (fun _ => rfl) ((u241.2 63 36 (by omega)).trans ((u233.2 63 36 (by omega)).trans ((fr228 63 36 rfl).trans ((fr198 63 36 rfl).trans ((fr195 63 36 rfl).trans ((u187.2 63 36 (by omega)).trans ((fr184 63 36 rfl).trans ((fr181 63 36 rfl).trans ((u173.2 63 36 (by omega)).trans ((fr170 63 36 rfl).trans ((fr167 63 36 rfl).trans ((u159.2 63 36 (by omega)).trans ((fr156 63 36 rfl).trans ((fr153 63 36 rfl).trans ((u145.2 63 36 (by omega)).trans ((fr142 63 36 rfl).trans ((fr137 63 36 rfl).trans v1e))))))))))))))))) ?_
            refine s_dup2 kx_207_230 rfl rfl ?_
            refine r_aldK (k := 69) kx_207_231 (tk_69 hT) ⟨by omega, by omega⟩ ((u241.2 69 _ (by omega)).trans ((u233.2 69 _ (by omega)).trans ((fr228 69 _ rfl).trans ((fr198 69 _ rfl).trans ((fr195 69 _ rfl).trans ((u187.2 69 _ (by omega)).trans ((fr184 69 _ rfl).trans ((fr181 69 _ rfl).trans ((u173.2 69 _ (by omega)).trans ((fr170 69 _ rfl).trans ((fr167 69 _ rfl).trans ((u159.2 69 _ (by omega)).trans ((fr156 69 _ rfl).trans ((fr153 69 _ rfl).trans ((u145.2 69 _ (by omega)).trans ((fr142 69 _ rfl).trans ((fr137 69 _ rfl).trans v2e))))))))))))))))) ?_
            refine s_iconst (v := 1) kx_207_232 (by decide) ?_
            refine r_add kx_207_233 ⟨by omega, by omega⟩ ?_
            refine r_ast (k := 69) kx_207_234 (tk_69 hT) ⟨by omega, by omega⟩ hI241 (ru_69 (by omega) (by omega)) (fun M248 hI248 u248 => ?_)
            have hFm248 := hFm241.up u248 rfl
            have tr249 := (u248.2 63 3 (by omega))
            have tr250 := (u248.2 63 4 (by omega))
            have tr251 := (u248.2 63 5 (by omega))
            have tr252 := (u248.2 63 9 (by omega))
            have tr253 := (u248.2 63 10 (by omega))
            have hk254 : M248 63 9 = v204 := ((u248.2 63 9 (by omega)).trans ((u241.2 63 9 (by omega)).trans ((u233.2 63 9 (by omega)).trans ((fr228 63 9 rfl).trans v204e))))
            exact s_vret kx_207_235 kq_207 ⟨_, rfl, rfl, hI248, hFm248, ⟨(LXp.up (LXp.up (LXp.up (show LXp M228 from v227p.2.2) u233 (Or.inl (by decide))) u241 (Or.inl (by decide))) u248 (Or.inl (by decide))), by omega, by omega, by unfold PRd; omega, ⟨(by rw [← per_seq (s := s) (n := n) (D := D) (q := q) (w := v183) ⟨hq0, hqn⟩ (by omega) hpw, hm_z (hm_in ⟨hq0, hqn⟩) hpz.1, if_neg (by omega)]; exact (Yst.up (Yst.up (Yst.up (show Yst M228 s n 0 (owE s n (owE s n (owE s n (owE s n (owE s n (owE s n (owE s n (owE s n (owE s n (owE s n q)))))))))) from Or.inr ⟨rfl, by omega, v227p.1⟩) u233 ⟨by decide, Or.inl (by decide)⟩) u241 ⟨by decide, Or.inl (by decide)⟩) u248 ⟨by decide, Or.inl (by decide)⟩)), fun _ => by unfold owPerD; exact RSD.addP hRS247 ((u241.2 63 36 (by omega)).trans ((u233.2 63 36 (by omega)).trans ((fr228 63 36 rfl).trans ((fr198 63 36 rfl).trans ((fr195 63 36 rfl).trans ((u187.2 63 36 (by omega)).trans ((fr184 63 36 rfl).trans ((fr181 63 36 rfl).trans ((u173.2 63 36 (by omega)).trans ((fr170 63 36 rfl).trans ((fr167 63 36 rfl).trans ((u159.2 63 36 (by omega)).trans ((fr156 63 36 rfl).trans ((fr153 63 36 rfl).trans ((u145.2 63 36 (by omega)).trans ((fr142 63 36 rfl).trans ((fr137 63 36 rfl).trans v1e))))))))))))))))) (by omega) (by omega) (by rw [(show (8 * v1 + D 0 1).toNat = (((8 * v1) + v2)).toNat by congr 1; omega), ((u241.2 84 _ (by omega)).trans ((u233.2 84 _ (by omega)).trans ((fr228 84 _ rfl).trans ((fr198 84 _ rfl).trans ((fr195 84 _ rfl).trans ((u187.2 84 _ (by omega)).trans ((fr184 84 _ rfl).trans ((fr181 84 _ rfl).trans ((u173.2 84 _ (by omega)).trans ((fr170 84 _ rfl).trans ((fr167 84 _ rfl).trans ((u159.2 84 _ (by omega)).trans ((fr156 84 _ rfl).trans ((fr153 84 _ rfl).trans u145.1))))))))))))))]; exact v141p.2.2.2.2.2 z1) (by rw [(show (8 * v1 + D 0 1).toNat = (((8 * v1) + v2)).toNat by congr 1; omega), ((u241.2 70 _ (by omega)).trans ((u233.2 70 _ (by omega)).trans ((fr228 70 _ rfl).trans ((fr198 70 _ rfl).trans ((fr195 70 _ rfl).trans ((u187.2 70 _ (by omega)).trans ((fr184 70 _ rfl).trans ((fr181 70 _ rfl).trans ((u173.2 70 _ (by omega)).trans ((fr170 70 _ rfl).trans ((fr167 70 _ rfl).trans u159.1)))))))))))]; exact v155p.2.2.2.2.2 z2) (by rw [(show (8 * v1 + D 0 1).toNat = (((8 * v1) + v2)).toNat by congr 1; omega), ((u241.2 71 _ (by omega)).trans ((u233.2 71 _ (by omega)).trans ((fr228 71 _ rfl).trans ((fr198 71 _ rfl).trans ((fr195 71 _ rfl).trans ((u187.2 71 _ (by omega)).trans ((fr184 71 _ rfl).trans ((fr181 71 _ rfl).trans u173.1))))))))]; exact v169p.2.2.2.2.2 z3) (by rw [(show (8 * v1 + D 0 1).toNat = (((8 * v1) + v2)).toNat by congr 1; omega), ((u241.2 72 _ (by omega)).trans ((u233.2 72 _ (by omega)).trans ((fr228 72 _ rfl).trans ((fr198 72 _ rfl).trans ((fr195 72 _ rfl).trans u187.1)))))]; exact hpw) (by rw [(show (8 * v1 + D 0 1).toNat = (((8 * v1) + v2)).toNat by congr 1; omega)]; exact u241.1) (by rw [(show (8 * v1 + D 0 1).toNat = (((8 * v1) + v2)).toNat by congr 1; omega), ((u241.2 73 _ (by omega)).trans u233.1)]; exact hpr1) (by rw [show D 0 1 + 1 = (v2 + 1) by omega]; exact u248)⟩⟩⟩
          · refine s_aload_n kx_207_187 rfl ?_
            refine s_iconst (v := 3) kx_207_188 (by decide) ?_
            refine s_aload_n kx_207_189 rfl ?_
            refine r_getI (k := 63) (f := 4) kx_207_190 kp_207_23 (tk_63 hT) kf_12_4 (fun _ => rfl) (rg_63_4 hI198) (fun v255 v255e v255a v255b => ?_)
            refine s_callV2 (k := 63) (s1 := 3) (s2 := 0) (as := [(0, v255), (0, 3)]) (rest := []) kx_207_193 kp_207_263 (Or.inl rfl) rfl (tk_63 hT) ki_176 kcl_176 rfl rfl (by decide) (f_176 (d := d + 2) (kind := 3) (place := v255) hT hI198 (by omega)) (kV (fun M257 hI257 fr257 v256p => ?_))
            have hFm257 := hFm198.call fr257 rfl
            have tr258 := (fr257 63 3 rfl)
            have tr259 := (fr257 63 4 rfl)
            have tr260 := (fr257 63 5 rfl)
            have tr261 := (fr257 63 6 rfl)
            have tr262 := rg_63_9 hI257
            refine s_aload_n kx_207_196 rfl ?_
            refine r_getI (k := 63) (f := 9) kx_207_197 kp_207_39 (tk_63 hT) kf_12_9 (fun _ => rfl) (rg_63_9 hI257) (fun v263 v263e v263a v263b => ?_)
            refine s_if_le (t := 204) kx_207_200 (by decide) (fun hc264 => ?_) (fun hc264 => ?_)
            · exact absurd h639 (by omega)
            · have hk265 : M257 63 4 = v255 := ((fr257 63 4 rfl).trans v255e)
              have hk266 : M257 63 9 = v263 := v263e
              exact s_vret kx_207_203 kq_207 ⟨_, rfl, rfl, hI257, hFm257, ⟨(LXp.fr (LXp.fr v194p.1 fr198 rfl) fr257 rfl), by omega, by omega, by unfold PRd; omega, ⟨(by rw [← per_seq (s := s) (n := n) (D := D) (q := q) (w := v183) ⟨hq0, hqn⟩ (by omega) hpw, hm_z (hm_in ⟨hq0, hqn⟩) hpz.1, if_pos (by omega)]; exact yst_bl (k := 3) (x := owB s n (owE s n (owE s n (owE s n (owE s n (owE s n (owE s n (owE s n (owE s n (owE s n q)))))))))) (by omega) (by omega) (by decide) (by omega) (by omega)), fun g => by exfalso; rw [← per_seq (s := s) (n := n) (D := D) (q := q) (w := v183) ⟨hq0, hqn⟩ (by omega) hpw, hm_z (hm_in ⟨hq0, hqn⟩) hpz.1, if_pos (by omega)] at g; omega⟩⟩⟩
    · have hc267 := v136p.2.2.2.resolve_left (by omega)
      have hc267a := hc267.2.1
      exact s_vret kx_207_26 kq_207 ⟨_, rfl, rfl, hI137, hFm137, ⟨v136p.1, by omega, by omega, by unfold PRd; omega, ⟨(Or.inl (by rw [show owPerF s n D q = 60000 + owB s n q by unfold owPerF; (repeat' split) <;> omega]; exact hc267.2.2.1)), fun g => by exfalso; rw [show owPerF s n D q = 60000 + owB s n q by unfold owPerF; (repeat' split) <;> omega] at g; exact hc267.2.2.1.1 g⟩⟩⟩
