def gS_207_m : List (Nat × Nat) := [(63, 10), (63, 13), (63, 3), (63, 4), (63, 5), (63, 6), (63, 7), (63, 8), (63, 9), (69, 99999), (70, 99999), (71, 99999), (72, 99999), (73, 99999), (74, 99999), (84, 99999)]
set_option maxHeartbeats 8000000 in
theorem f_207 {xs : Nat → Int} {Ln d : Nat} {T : List cK} {M : cM} (hT : TT T) (hI : Rng M) (hX : LXp M) {s : Nat → Int} {n q : Int} {D : cM} (hY : Yst M s n 0 q) (hn : n ≤ 1600) (hR : RSD M D) (hW : DW D) {bX : Int} {WX : cM} (hKX : KB bX WX M) (p0 : M 63 4 + 1 ≤ M 63 5) : cC k_P xs Ln (d + 3) 207 [rf 63] (T, M) (qV T M gS_207_m (fun M1 => (LXp M1 ∧ M 63 4 ≤ M1 63 4 ∧ M 63 9 ≤ M1 63 9 ∧ (PRd M M1) ∧ Yst M1 s n (owPerF s n D q) (owPerP s n q) ∧ (owPerF s n D q = 0 → RSD M1 (owPerD s n D q))) ∧ KB bX WX M1)) := by
  show cP k_P xs Ln (d + 3) 207 0 [(0, rf 63)] [] (T, M) _
  have hFm : Fr gS_207_m M M := Fr.refl
  have h639 := rg_63_9 hI
  have hz9 := hY.z.1
  have hzb := hY.z.2.b hn
  have hq0 := hY.z.2.2.2.1
  have hqn := hY.z.2.2.2.2.1
  have hr36 := rg_63_36 hI
  have hq65 := hR.1
  have hq69 := hR.2.1
  have hw0 := hW.1
  have hw1 := hW.2.1
  have hw2 := hW.2.2.1
  have hw3 := hW.2.2.2.1
  have hkx1 := hKX.1
  have hkx2 := hKX.2.1
  have hkx3 := hKX.2.2.1
  refine s_aload_n kx_207_0 rfl ?_
  refine s_aload_n kx_207_1 rfl ?_
  refine r_getR (k := 63) (f := 19) (k2 := 69) kx_207_2 kp_207_69 (tk_63 hT) kf_12_19 (by decide) (rq_63_19 hI) ?_
  refine s_aload_n kx_207_5 rfl ?_
  refine r_getI (k := 63) (f := 36) kx_207_6 kp_207_121 (tk_63 hT) kf_12_36 (fun _ => rfl) (rg_63_36 hI) (fun v1 v1e v1a v1b => ?_)
  have hq69i := hq69
  rw [v1e] at hq69i
  refine r_ald (k := 69) kx_207_9 (tk_69 hT) ⟨by omega, by omega⟩ (rg_69 hI) (fun v2 v2e v2a v2b => ?_)
  refine s_bipush (v := 8) kx_207_10 (by decide) ?_
  refine s_icmp_ne (t := 19) kx_207_12 (by decide) (fun hc3 => ?_) (fun hc3 => ?_)
  · refine s_iconst (v := 0) kx_207_19 (by decide) ?_
    refine s_callV2 (k := 63) (s1 := 2) (s2 := 0) (as := [(0, 0)]) (rest := []) kx_207_20 kp_207_386 (Or.inl rfl) rfl (tk_63 hT) ki_199 kcl_199 rfl rfl (by decide) (f_199 (d := d) (full := 0) hT hI hX hY hn (by omega)) (kW (fun v4 M5 hI5 fr5 v4p => ?_))
    have hFm5 := hFm.call fr5 rfl
    have tr6 := (fr5 63 36 rfl)
    have tr7 := rg_63_9 hI5
    refine s_if_ne (t := 27) kx_207_23 (by decide) (fun hc8 => ?_) (fun hc8 => ?_)
    · have hc9 := v4p.2.2.2.resolve_right (by omega)
      have hc9a := hc9.2.1
      refine s_bipush (v := 8) kx_207_27 (by decide) ?_
      refine s_aload_n kx_207_29 rfl ?_
      refine r_getK (k := 63) (f := 36) kx_207_30 kp_207_121 (tk_63 hT) kf_12_36 (fun _ => rfl) ((fr5 63 36 rfl).trans v1e) ?_
      refine r_mul kx_207_33 ⟨by omega, by omega⟩ ?_
      refine s_aload_n kx_207_34 rfl ?_
      refine r_getR (k := 63) (f := 19) (k2 := 69) kx_207_35 kp_207_69 (tk_63 hT) kf_12_19 (by decide) (rq_63_19 hI5) ?_
      refine s_aload_n kx_207_38 rfl ?_
      refine r_getK (k := 63) (f := 36) kx_207_39 kp_207_121 (tk_63 hT) kf_12_36 (fun _ => rfl) ((fr5 63 36 rfl).trans v1e) ?_
      refine r_aldK (k := 69) kx_207_42 (tk_69 hT) ⟨by omega, by omega⟩ ((fr5 69 _ rfl).trans v2e) ?_
      refine r_add kx_207_43 ⟨by omega, by omega⟩ ?_
      refine s_istore_n kx_207_44 km_207_1 rfl ?_
      refine s_aload_n kx_207_45 rfl ?_
      refine r_getR (k := 63) (f := 34) (k2 := 84) kx_207_46 kp_207_115 (tk_63 hT) kf_12_34 (by decide) (rq_63_34 hI5) ?_
      refine s_iload_n kx_207_49 rfl ?_
      refine s_aload_n kx_207_50 rfl ?_
      refine s_callV2 (k := 63) (s1 := 1) (s2 := 2) (as := []) (rest := [(0, ((8 * v1) + v2)), rf 84]) kx_207_51 kp_207_390 (Or.inl rfl) rfl (tk_63 hT) ki_201 kcl_201 rfl rfl (by decide) (f_201 (d := d) hT hI5 v4p.1 (show Yst M5 s n 0 (owE s n q) from Or.inr ⟨rfl, hc9.2.1.2.2, hc9.2.2⟩) hn (RSD.fr hR fr5 rfl)) (kW (fun v10 M11 hI11 fr11 v10p => ?_))
      have hFm11 := hFm5.call fr11 rfl
      have tr12 := (fr11 63 36 rfl)
      have tr13 := rg_63_9 hI11
      have hk14 : M11 63 36 = v1 := ((fr11 63 36 rfl).trans ((fr5 63 36 rfl).trans v1e))
      refine r_last (k := 84) kx_207_54 (tk_84 hT) ⟨by omega, by omega⟩ hI11 ru_84 (fun M15 hI15 u15 => ?_)
      have hFm15 := hFm11.up u15 rfl
      have tr16 := (u15.2 63 3 (by omega))
      have tr17 := (u15.2 63 4 (by omega))
      have tr18 := (u15.2 63 5 (by omega))
      have tr19 := (u15.2 63 9 (by omega))
      have tr20 := (u15.2 63 10 (by omega))
      have tr21 := (u15.2 63 36 (by omega))
      have hkx22 := (KB.up8 (KB.fr (KB.fr hKX fr5 rfl) fr11 rfl) u15 (by decide) ⟨by omega, by omega⟩)
      have hRS23 := RSD.upk (RSD.fr (RSD.fr hR fr5 rfl) fr11 rfl) u15 (by omega) ⟨by omega, by omega⟩ (by omega)
      refine s_aload_n kx_207_55 rfl ?_
      refine s_ldc2_w kx_207_56 kp_207_301 ?_
      refine s_callV2 (k := 63) (s1 := 3) (s2 := 0) (as := [(1, 126943973305959)]) (rest := []) kx_207_59 kp_207_394 (Or.inl rfl) rfl (tk_63 hT) ki_200 kcl_200 rfl rfl (by decide) (f_200 (d := d) (w := 126943973305959) hT hI15 (LXp.up v10p.1 u15 (Or.inl (by decide))) (Yst.up v10p.2.2.2.2.1 u15 ⟨by decide, Or.inl (by decide)⟩) hn (w5 := 659111367) n58_strong (Or.inr (by decide)) (by omega)) (kV (fun M25 hI25 fr25 v24p => ?_))
      have hFm25 := hFm15.call fr25 rfl
      have tr26 := (fr25 63 36 rfl)
      have tr27 := rg_63_9 hI25
      refine s_aload_n kx_207_62 rfl ?_
      refine r_getR (k := 63) (f := 20) (k2 := 70) kx_207_63 kp_207_72 (tk_63 hT) kf_12_20 (by decide) (rq_63_20 hI25) ?_
      refine s_iload_n kx_207_66 rfl ?_
      refine s_aload_n kx_207_67 rfl ?_
      refine s_iconst (v := 1) kx_207_68 (by decide) ?_
      refine s_bipush (v := 99) kx_207_69 (by decide) ?_
      refine s_callV2 (k := 63) (s1 := 3) (s2 := 2) (as := [(0, 99), (0, 1)]) (rest := [(0, ((8 * v1) + v2)), rf 70]) kx_207_71 kp_207_398 (Or.inl rfl) rfl (tk_63 hT) ki_188 kcl_188 rfl rfl (by decide) (f_188 (d := d) (low := 1) (high := 99) hT hI25 v24p.1 v24p.2.2.2.2 hn) (kW (fun v28 M29 hI29 fr29 v28p => ?_))
      have hFm29 := hFm25.call fr29 rfl
      have tr30 := (fr29 63 36 rfl)
      have tr31 := rg_63_9 hI29
      have hk32 : M29 63 36 = v1 := ((fr29 63 36 rfl).trans ((fr25 63 36 rfl).trans ((u15.2 63 36 (by omega)).trans ((fr11 63 36 rfl).trans ((fr5 63 36 rfl).trans v1e)))))
      refine r_ast (k := 70) kx_207_74 (tk_70 hT) ⟨by omega, by omega⟩ hI29 ru_70 (fun M33 hI33 u33 => ?_)
      have hFm33 := hFm29.up u33 rfl
      have tr34 := (u33.2 63 3 (by omega))
      have tr35 := (u33.2 63 4 (by omega))
      have tr36 := (u33.2 63 5 (by omega))
      have tr37 := (u33.2 63 9 (by omega))
      have tr38 := (u33.2 63 10 (by omega))
      have tr39 := (u33.2 63 36 (by omega))
      have hkx40 := (KB.up8 (KB.fr (KB.fr hkx22 fr25 rfl) fr29 rfl) u33 (by decide) ⟨by omega, by omega⟩)
      have hRS41 := RSD.upk (RSD.fr (RSD.fr hRS23 fr25 rfl) fr29 rfl) u33 (by omega) ⟨by omega, by omega⟩ (by omega)
      refine s_aload_n kx_207_75 rfl ?_
      refine s_ldc2_w kx_207_76 kp_207_303 ?_
      refine s_callV2 (k := 63) (s1 := 3) (s2 := 0) (as := [(1, 426952976754)]) (rest := []) kx_207_79 kp_207_394 (Or.inl rfl) rfl (tk_63 hT) ki_200 kcl_200 rfl rfl (by decide) (f_200 (d := d) (w := 426952976754) hT hI33 (LXp.up v28p.1 u33 (Or.inl (by decide))) (Yst.up v28p.2.2.2.2.1 u33 ⟨by decide, Or.inl (by decide)⟩) hn (w5 := 109094464) n58_chair (Or.inr (by decide)) (by omega)) (kV (fun M43 hI43 fr43 v42p => ?_))
      have hFm43 := hFm33.call fr43 rfl
      have tr44 := (fr43 63 36 rfl)
      have tr45 := rg_63_9 hI43
      refine s_aload_n kx_207_82 rfl ?_
      refine r_getR (k := 63) (f := 21) (k2 := 71) kx_207_83 kp_207_75 (tk_63 hT) kf_12_21 (by decide) (rq_63_21 hI43) ?_
      refine s_iload_n kx_207_86 rfl ?_
      refine s_aload_n kx_207_87 rfl ?_
      refine s_iconst (v := 1) kx_207_88 (by decide) ?_
      refine s_bipush (v := 99) kx_207_89 (by decide) ?_
      refine s_callV2 (k := 63) (s1 := 3) (s2 := 2) (as := [(0, 99), (0, 1)]) (rest := [(0, ((8 * v1) + v2)), rf 71]) kx_207_91 kp_207_398 (Or.inl rfl) rfl (tk_63 hT) ki_188 kcl_188 rfl rfl (by decide) (f_188 (d := d) (low := 1) (high := 99) hT hI43 v42p.1 v42p.2.2.2.2 hn) (kW (fun v46 M47 hI47 fr47 v46p => ?_))
      have hFm47 := hFm43.call fr47 rfl
      have tr48 := (fr47 63 36 rfl)
      have tr49 := rg_63_9 hI47
      have hk50 : M47 63 36 = v1 := ((fr47 63 36 rfl).trans ((fr43 63 36 rfl).trans ((u33.2 63 36 (by omega)).trans ((fr29 63 36 rfl).trans ((fr25 63 36 rfl).trans ((u15.2 63 36 (by omega)).trans ((fr11 63 36 rfl).trans ((fr5 63 36 rfl).trans v1e))))))))
      refine r_ast (k := 71) kx_207_94 (tk_71 hT) ⟨by omega, by omega⟩ hI47 ru_71 (fun M51 hI51 u51 => ?_)
      have hFm51 := hFm47.up u51 rfl
      have tr52 := (u51.2 63 3 (by omega))
      have tr53 := (u51.2 63 4 (by omega))
      have tr54 := (u51.2 63 5 (by omega))
      have tr55 := (u51.2 63 9 (by omega))
      have tr56 := (u51.2 63 10 (by omega))
      have tr57 := (u51.2 63 36 (by omega))
      have hkx58 := (KB.up8 (KB.fr (KB.fr hkx40 fr43 rfl) fr47 rfl) u51 (by decide) ⟨by omega, by omega⟩)
      have hRS59 := RSD.upk (RSD.fr (RSD.fr hRS41 fr43 rfl) fr47 rfl) u51 (by omega) ⟨by omega, by omega⟩ (by omega)
      refine s_aload_n kx_207_95 rfl ?_
      refine s_ldc2_w kx_207_96 kp_207_305 ?_
      refine s_callV2 (k := 63) (s1 := 3) (s2 := 0) (as := [(1, 2003395685)]) (rest := []) kx_207_99 kp_207_394 (Or.inl rfl) rfl (tk_63 hT) ki_200 kcl_200 rfl rfl (by decide) (f_200 (d := d) (w := 2003395685) hT hI51 (LXp.up v46p.1 u51 (Or.inl (by decide))) (Yst.up v46p.2.2.2.2.1 u51 ⟨by decide, Or.inl (by decide)⟩) hn (w5 := 781325312) n58_wide (Or.inr (by decide)) (by omega)) (kV (fun M61 hI61 fr61 v60p => ?_))
      have hFm61 := hFm51.call fr61 rfl
      have tr62 := (fr61 63 36 rfl)
      have tr63 := rg_63_9 hI61
      refine s_aload_n kx_207_102 rfl ?_
      refine r_getR (k := 63) (f := 22) (k2 := 72) kx_207_103 kp_207_78 (tk_63 hT) kf_12_22 (by decide) (rq_63_22 hI61) ?_
      refine s_iload_n kx_207_106 rfl ?_
      refine s_aload_n kx_207_107 rfl ?_
      refine s_iconst (v := 1) kx_207_108 (by decide) ?_
      refine s_bipush (v := 9) kx_207_109 (by decide) ?_
      refine s_callV2 (k := 63) (s1 := 3) (s2 := 2) (as := [(0, 9), (0, 1)]) (rest := [(0, ((8 * v1) + v2)), rf 72]) kx_207_111 kp_207_398 (Or.inl rfl) rfl (tk_63 hT) ki_188 kcl_188 rfl rfl (by decide) (f_188 (d := d) (low := 1) (high := 9) hT hI61 v60p.1 v60p.2.2.2.2 hn) (kW (fun v64 M65 hI65 fr65 v64p => ?_))
      have hFm65 := hFm61.call fr65 rfl
      have tr66 := (fr65 63 36 rfl)
      have tr67 := rg_63_9 hI65
      have hk68 : M65 63 36 = v1 := ((fr65 63 36 rfl).trans ((fr61 63 36 rfl).trans ((u51.2 63 36 (by omega)).trans ((fr47 63 36 rfl).trans ((fr43 63 36 rfl).trans ((u33.2 63 36 (by omega)).trans ((fr29 63 36 rfl).trans ((fr25 63 36 rfl).trans ((u15.2 63 36 (by omega)).trans ((fr11 63 36 rfl).trans ((fr5 63 36 rfl).trans v1e)))))))))))
      refine r_ast (k := 72) kx_207_114 (tk_72 hT) ⟨by omega, by omega⟩ hI65 ru_72 (fun M69 hI69 u69 => ?_)
      have hFm69 := hFm65.up u69 rfl
      have tr70 := (u69.2 63 3 (by omega))
      have tr71 := (u69.2 63 4 (by omega))
      have tr72 := (u69.2 63 5 (by omega))
      have tr73 := (u69.2 63 9 (by omega))
      have tr74 := (u69.2 63 10 (by omega))
      have tr75 := (u69.2 63 36 (by omega))
      have hkx76 := (KB.up8 (KB.fr (KB.fr hkx58 fr61 rfl) fr65 rfl) u69 (by decide) ⟨by omega, by omega⟩)
      have hRS77 := RSD.upk (RSD.fr (RSD.fr hRS59 fr61 rfl) fr65 rfl) u69 (by omega) ⟨by omega, by omega⟩ (by omega)
      refine s_aload_n kx_207_115 rfl ?_
      refine s_ldc2_w kx_207_116 kp_207_307 ?_
      refine s_callV2 (k := 63) (s1 := 3) (s2 := 0) (as := [(1, 24948)]) (rest := []) kx_207_119 kp_207_394 (Or.inl rfl) rfl (tk_63 hT) ki_200 kcl_200 rfl rfl (by decide) (f_200 (d := d) (w := 24948) hT hI69 (LXp.up v64p.1 u69 (Or.inl (by decide))) (Yst.up v64p.2.2.2.2.1 u69 ⟨by decide, Or.inl (by decide)⟩) hn (w5 := 54525952) n58_at (Or.inr (by decide)) (by omega)) (kV (fun M79 hI79 fr79 v78p => ?_))
      have hFm79 := hFm69.call fr79 rfl
      have tr80 := (fr79 63 36 rfl)
      have tr81 := rg_63_9 hI79
      refine s_aload_n kx_207_122 rfl ?_
      refine s_iconst (v := 0) kx_207_123 (by decide) ?_
      refine s_callV2 (k := 63) (s1 := 2) (s2 := 0) (as := [(0, 0)]) (rest := []) kx_207_124 kp_207_383 (Or.inl rfl) rfl (tk_63 hT) ki_202 kcl_202 rfl rfl (by decide) (f_202 (d := d) (kind := 0) hT hI79 v78p.2.2.2.2 hn (RSD.fr hRS77 fr79 rfl) (by omega)) (kW (fun v82 M83 hI83 fr83 v82p => ?_))
      have hFm83 := hFm79.call fr83 rfl
      have tr84 := (fr83 63 3 rfl)
      have tr85 := (fr83 63 4 rfl)
      have tr86 := (fr83 63 5 rfl)
      have tr87 := (fr83 63 6 rfl)
      have tr88 := (fr83 63 36 rfl)
      have tr89 := rg_63_9 hI83
      refine s_istore_n kx_207_127 km_207_2 rfl ?_
      refine s_aload_n kx_207_128 rfl ?_
      refine r_getI (k := 63) (f := 9) kx_207_129 kp_207_39 (tk_63 hT) kf_12_9 (fun _ => rfl) (rg_63_9 hI83) (fun v90 v90e v90a v90b => ?_)
      refine s_if_ne (t := 196) kx_207_132 (by decide) (fun hc91 => ?_) (fun hc91 => ?_)
      · refine s_aload_n kx_207_196 rfl ?_
        refine r_getK (k := 63) (f := 9) kx_207_197 kp_207_39 (tk_63 hT) kf_12_9 (fun _ => rfl) v90e ?_
        refine s_if_le (t := 204) kx_207_200 (by decide) (fun hc92 => absurd hc92 (by omega)) (fun hc92 => ?_)
        have hk93 : M83 63 9 = v90 := v90e
        exact s_vret kx_207_203 kq_207 ⟨_, rfl, rfl, hI83, hFm83, ⟨⟨(LXp.fr v78p.1 fr83 rfl), by omega, by omega, by unfold PRd; omega, ⟨(by rw [← per_seq (s := s) (n := n) (D := D) (q := q) (w := owV s n (owE s n (owE s n (owE s n (owE s n (owE s n (owE s n (owE s n q)))))))) ⟨hq0, hqn⟩ (by omega) rfl, hm_pos (hm_in ⟨hq0, hqn⟩) (Yst.pos v82p.2.2.2.2.1 (by omega)).1]; exact yst_is rfl v82p.2.2.2.2.1 (Yst.pos v82p.2.2.2.2.1 (by omega)).1), fun g => by rw [← per_seq (s := s) (n := n) (D := D) (q := q) (w := owV s n (owE s n (owE s n (owE s n (owE s n (owE s n (owE s n (owE s n q)))))))) ⟨hq0, hqn⟩ (by omega) rfl, hm_pos (hm_in ⟨hq0, hqn⟩) (Yst.pos v82p.2.2.2.2.1 (by omega)).1] at g; exact absurd g (Yst.pos v82p.2.2.2.2.1 (by omega)).1⟩⟩, (KB.fr (KB.fr hkx76 fr79 rfl) fr83 rfl)⟩⟩
      · have hpz := (Yst.zero v82p.2.2.2.2.1 (by omega))
        have hpr := (v82p.2.2.2.2.2 hpz.1)
        have hpr1 := hpr.1
        rw [yRi] at hpr1
        have hpc : yCt D 0 = D 0 0 := rfl
        have hpr2 := hpr.2.1
        have z5 := yKr_f hpz.1
        have z4 := yMu_f z5
        have hpw := v64p.2.2.2.2.2 z4
        have hpl := hpz.2.b hn
        have hpp := hpz.2.2.2.1
        have z3 := yMu_f (yNu_f z4)
        have z2 := yMu_f (yNu_f z3)
        have z1 := yMu_f (yNu_f z2)
        refine s_aload_n kx_207_135 rfl ?_
        refine r_getR (k := 63) (f := 16) (k2 := 66) kx_207_136 kp_207_60 (tk_63 hT) kf_12_16 (by decide) (rq_63_16 hI83) ?_
        refine s_bipush (v := 8) kx_207_139 (by decide) ?_
        refine s_aload_n kx_207_141 rfl ?_
        refine r_getK (k := 63) (f := 36) kx_207_142 kp_207_121 (tk_63 hT) kf_12_36 (fun _ => rfl) ((fr83 63 36 rfl).trans ((fr79 63 36 rfl).trans ((u69.2 63 36 (by omega)).trans ((fr65 63 36 rfl).trans ((fr61 63 36 rfl).trans ((u51.2 63 36 (by omega)).trans ((fr47 63 36 rfl).trans ((fr43 63 36 rfl).trans ((u33.2 63 36 (by omega)).trans ((fr29 63 36 rfl).trans ((fr25 63 36 rfl).trans ((u15.2 63 36 (by omega)).trans ((fr11 63 36 rfl).trans ((fr5 63 36 rfl).trans v1e)))))))))))))) ?_
        refine r_mul kx_207_145 ⟨by omega, by omega⟩ ?_
        refine s_iload_n kx_207_146 rfl ?_
        refine r_add kx_207_147 ⟨by omega, by omega⟩ ?_
        refine r_aldU (k := 66) kx_207_148 (tk_66 hT) ⟨by omega, by omega⟩ (fun v94 v94e => ?_)
        refine s_aload_n kx_207_149 rfl ?_
        refine r_getR (k := 63) (f := 22) (k2 := 72) kx_207_150 kp_207_78 (tk_63 hT) kf_12_22 (by decide) (rq_63_22 hI83) ?_
        refine s_iload_n kx_207_153 rfl ?_
        refine r_aldK (k := 72) kx_207_154 (tk_72 hT) ⟨by omega, by omega⟩ ((fr83 72 _ rfl).trans ((fr79 72 _ rfl).trans u69.1)) ?_
        have hrr := (RSD.fr (RSD.fr hRS77 fr79 rfl) fr83 rfl).room ((fr83 63 36 rfl).trans ((fr79 63 36 rfl).trans ((u69.2 63 36 (by omega)).trans ((fr65 63 36 rfl).trans ((fr61 63 36 rfl).trans ((u51.2 63 36 (by omega)).trans ((fr47 63 36 rfl).trans ((fr43 63 36 rfl).trans ((u33.2 63 36 (by omega)).trans ((fr29 63 36 rfl).trans ((fr25 63 36 rfl).trans ((u15.2 63 36 (by omega)).trans ((fr11 63 36 rfl).trans ((fr5 63 36 rfl).trans v1e)))))))))))))) (j := v82) (by omega) (by omega)
        have hrd : v94 = D 2 (v82).toNat := v94e.symm.trans hrr.1
        rw [hpr1] at hrd
        have hwr : 1 ≤ v64 ∧ v64 ≤ 9 := by have hnb := v64p.2.2.2.1; unfold NBd at hnb; omega
        refine s_icmp_lt (t := 187) kx_207_155 (by decide) (fun hc95 => ?_) (fun hc95 => ?_)
        · refine s_aload_n kx_207_187 rfl ?_
          refine s_iconst (v := 3) kx_207_188 (by decide) ?_
          refine s_aload_n kx_207_189 rfl ?_
          refine r_getI (k := 63) (f := 4) kx_207_190 kp_207_23 (tk_63 hT) kf_12_4 (fun _ => rfl) (rg_63_4 hI83) (fun v96 v96e v96a v96b => ?_)
          refine s_callV2 (k := 63) (s1 := 3) (s2 := 0) (as := [(0, v96), (0, 3)]) (rest := []) kx_207_193 kp_207_263 (Or.inl rfl) rfl (tk_63 hT) ki_176 kcl_176 rfl rfl (by decide) (f_176 (d := d + 2) (kind := 3) (place := v96) hT hI83 (by omega)) (kV (fun M98 hI98 fr98 v97p => ?_))
          have hFm98 := hFm83.call fr98 rfl
          have tr99 := (fr98 63 3 rfl)
          have tr100 := (fr98 63 4 rfl)
          have tr101 := (fr98 63 5 rfl)
          have tr102 := (fr98 63 6 rfl)
          have tr103 := (fr98 63 36 rfl)
          have tr104 := rg_63_9 hI98
          refine s_aload_n kx_207_196 rfl ?_
          refine r_getI (k := 63) (f := 9) kx_207_197 kp_207_39 (tk_63 hT) kf_12_9 (fun _ => rfl) (rg_63_9 hI98) (fun v105 v105e v105a v105b => ?_)
          refine s_if_le (t := 204) kx_207_200 (by decide) (fun hc106 => ?_) (fun hc106 => ?_)
          · exact absurd h639 (by omega)
          · have hk107 : M98 63 4 = v96 := ((fr98 63 4 rfl).trans v96e)
            have hk108 : M98 63 9 = v105 := v105e
            exact s_vret kx_207_203 kq_207 ⟨_, rfl, rfl, hI98, hFm98, ⟨⟨(LXp.fr (LXp.fr v78p.1 fr83 rfl) fr98 rfl), by omega, by omega, by unfold PRd; omega, ⟨(by rw [← per_seq (s := s) (n := n) (D := D) (q := q) (w := v64) ⟨hq0, hqn⟩ (by omega) hpw, hm_z (hm_in ⟨hq0, hqn⟩) hpz.1, if_pos (by omega)]; exact yst_bl (k := 3) (x := owB s n (owE s n (owE s n (owE s n (owE s n (owE s n (owE s n (owE s n (owE s n (owE s n q)))))))))) (by omega) (by omega) (by decide) (by omega) (by omega)), fun g => by exfalso; rw [← per_seq (s := s) (n := n) (D := D) (q := q) (w := v64) ⟨hq0, hqn⟩ (by omega) hpw, hm_z (hm_in ⟨hq0, hqn⟩) hpz.1, if_pos (by omega)] at g; omega⟩⟩, (KB.fr (KB.fr (KB.fr hkx76 fr79 rfl) fr83 rfl) fr98 rfl)⟩⟩
        · refine s_aload_n kx_207_158 rfl ?_
          refine s_iload_n kx_207_159 rfl ?_
          refine s_callV2 (k := 63) (s1 := 2) (s2 := 0) (as := [(0, v82)]) (rest := []) kx_207_160 kp_207_404 (Or.inl rfl) rfl (tk_63 hT) ki_206 kcl_206 rfl rfl (by decide) (f_206 (d := d + 2) (r := v82) hT hI83 (RSD.fr (RSD.fr hRS77 fr79 rfl) fr83 rfl) hW) (kF (fun v109 v109p => ?_))
          have hto := v109p
          have htr := owLd_rng hW v82 (D 0 1).toNat (by omega)
          refine s_aload_n kx_207_163 rfl ?_
          refine r_getR (k := 63) (f := 22) (k2 := 72) kx_207_164 kp_207_78 (tk_63 hT) kf_12_22 (by decide) (rq_63_22 hI83) ?_
          refine s_iload_n kx_207_167 rfl ?_
          refine r_aldK (k := 72) kx_207_168 (tk_72 hT) ⟨by omega, by omega⟩ ((fr83 72 _ rfl).trans ((fr79 72 _ rfl).trans u69.1)) ?_
          refine r_add kx_207_169 ⟨by omega, by omega⟩ ?_
          refine s_aload_n kx_207_170 rfl ?_
          refine r_getR (k := 63) (f := 17) (k2 := 67) kx_207_171 kp_207_63 (tk_63 hT) kf_12_17 (by decide) (rq_63_17 hI83) ?_
          refine s_bipush (v := 8) kx_207_174 (by decide) ?_
          refine s_aload_n kx_207_176 rfl ?_
          refine r_getK (k := 63) (f := 36) kx_207_177 kp_207_121 (tk_63 hT) kf_12_36 (fun _ => rfl) ((fr83 63 36 rfl).trans ((fr79 63 36 rfl).trans ((u69.2 63 36 (by omega)).trans ((fr65 63 36 rfl).trans ((fr61 63 36 rfl).trans ((u51.2 63 36 (by omega)).trans ((fr47 63 36 rfl).trans ((fr43 63 36 rfl).trans ((u33.2 63 36 (by omega)).trans ((fr29 63 36 rfl).trans ((fr25 63 36 rfl).trans ((u15.2 63 36 (by omega)).trans ((fr11 63 36 rfl).trans ((fr5 63 36 rfl).trans v1e)))))))))))))) ?_
          refine r_mul kx_207_180 ⟨by omega, by omega⟩ ?_
          refine s_iload_n kx_207_181 rfl ?_
          refine r_add kx_207_182 ⟨by omega, by omega⟩ ?_
          refine r_aldU (k := 67) kx_207_183 (tk_67 hT) ⟨by omega, by omega⟩ (fun v110 v110e => ?_)
          have hrf : v110 = D 3 (v82).toNat := v110e.symm.trans hrr.2
          rw [hpr1] at hrf
          rw [hpr1] at hto
          refine s_icmp_le (t := 196) kx_207_184 (by decide) (fun hc111 => ?_) (fun hc111 => ?_)
          · refine s_aload_n kx_207_196 rfl ?_
            refine r_getK (k := 63) (f := 9) kx_207_197 kp_207_39 (tk_63 hT) kf_12_9 (fun _ => rfl) v90e ?_
            refine s_if_le (t := 204) kx_207_200 (by decide) (fun hc112 => ?_) (fun hc112 => absurd hc112 (by omega))
            refine s_aload_n kx_207_204 rfl ?_
            have hl113 := (show LXp M83 from (LXp.fr v78p.1 fr83 rfl)).1
            refine s_callV2 (k := 63) (s1 := 1) (s2 := 0) (as := []) (rest := []) kx_207_205 kp_207_286 (Or.inl rfl) rfl (tk_63 hT) ki_180 kcl_180 rfl rfl (by decide) (f_180 (d := d + 1) hT hI83 hpz.2.1 hpz.2.2.1 hpz.2.2.2.2.2.2.1 (owE_i2 ⟨hpz.2.2.2.1, hpz.2.2.2.2.1⟩).1 (owE_i2 ⟨hpz.2.2.2.1, hpz.2.2.2.2.1⟩).2 hpz.2.2.2.2.2.2.2.2.2.2.2.2.2) (kV (fun M115 hI115 fr115 v114p => ?_))
            have hFm115 := hFm83.call fr115 rfl
            have tr116 := (fr115 63 9 rfl)
            have tr117 := (fr115 63 10 rfl)
            have tr118 := (fr115 63 36 rfl)
            have tr119 := rg_63_9 hI115
            refine s_aload_n kx_207_208 rfl ?_
            refine r_getR (k := 63) (f := 23) (k2 := 73) kx_207_209 kp_207_81 (tk_63 hT) kf_12_23 (by decide) (rq_63_23 hI115) ?_
            refine s_iload_n kx_207_212 rfl ?_
            refine s_iload_n kx_207_213 rfl ?_
            have hk120 : M115 63 36 = v1 := ((fr115 63 36 rfl).trans ((fr83 63 36 rfl).trans ((fr79 63 36 rfl).trans ((u69.2 63 36 (by omega)).trans ((fr65 63 36 rfl).trans ((fr61 63 36 rfl).trans ((u51.2 63 36 (by omega)).trans ((fr47 63 36 rfl).trans ((fr43 63 36 rfl).trans ((u33.2 63 36 (by omega)).trans ((fr29 63 36 rfl).trans ((fr25 63 36 rfl).trans ((u15.2 63 36 (by omega)).trans ((fr11 63 36 rfl).trans ((fr5 63 36 rfl).trans v1e)))))))))))))))
            refine r_ast (k := 73) kx_207_214 (tk_73 hT) ⟨by omega, by omega⟩ hI115 (ru_73 (by omega) (by omega)) (fun M121 hI121 u121 => ?_)
            have hFm121 := hFm115.up u121 rfl
            have tr122 := (u121.2 63 3 (by omega))
            have tr123 := (u121.2 63 4 (by omega))
            have tr124 := (u121.2 63 5 (by omega))
            have tr125 := (u121.2 63 9 (by omega))
            have tr126 := (u121.2 63 10 (by omega))
            have tr127 := (u121.2 63 36 (by omega))
            have hkx128 := (KB.up8 (KB.fr (KB.fr (KB.fr hkx76 fr79 rfl) fr83 rfl) fr115 rfl) u121 (by decide) ⟨by omega, by omega⟩)
            have hRS129 := RSD.upk (RSD.fr (RSD.fr (RSD.fr hRS77 fr79 rfl) fr83 rfl) fr115 rfl) u121 (by omega) ⟨by omega, by omega⟩ (by omega)
            refine s_aload_n kx_207_215 rfl ?_
            refine r_getR (k := 63) (f := 24) (k2 := 74) kx_207_216 kp_207_84 (tk_63 hT) kf_12_24 (by decide) (rq_63_24 hI121) ?_
            refine s_iload_n kx_207_219 rfl ?_
            refine s_iconst (v := (-1)) kx_207_220 (by decide) ?_
            have hk130 : M121 63 36 = v1 := ((u121.2 63 36 (by omega)).trans ((fr115 63 36 rfl).trans ((fr83 63 36 rfl).trans ((fr79 63 36 rfl).trans ((u69.2 63 36 (by omega)).trans ((fr65 63 36 rfl).trans ((fr61 63 36 rfl).trans ((u51.2 63 36 (by omega)).trans ((fr47 63 36 rfl).trans ((fr43 63 36 rfl).trans ((u33.2 63 36 (by omega)).trans ((fr29 63 36 rfl).trans ((fr25 63 36 rfl).trans ((u15.2 63 36 (by omega)).trans ((fr11 63 36 rfl).trans ((fr5 63 36 rfl).trans v1e))))))))))))))))
            refine r_ast (k := 74) kx_207_221 (tk_74 hT) ⟨by omega, by omega⟩ hI121 (ru_74 (by omega) (by omega)) (fun M131 hI131 u131 => ?_)
            have hFm131 := hFm121.up u131 rfl
            have tr132 := (u131.2 63 3 (by omega))
            have tr133 := (u131.2 63 4 (by omega))
            have tr134 := (u131.2 63 5 (by omega))
            have tr135 := (u131.2 63 9 (by omega))
            have tr136 := (u131.2 63 10 (by omega))
            have tr137 := (u131.2 63 36 (by omega))
            have hkx138 := (KB.up8 hkx128 u131 (by decide) ⟨by omega, by omega⟩)
            have hRS139 := RSD.upk hRS129 u131 (by omega) ⟨by omega, by omega⟩ (by omega)
            refine s_aload_n kx_207_222 rfl ?_
            refine r_getR (k := 63) (f := 19) (k2 := 69) kx_207_223 kp_207_69 (tk_63 hT) kf_12_19 (by decide) (rq_63_19 hI131) ?_
            refine s_aload_n kx_207_226 rfl ?_
            refine r_getK (k := 63) (f := 36) kx_207_227 kp_207_121 (tk_63 hT) kf_12_36 (fun _ => rfl) ((u131.2 63 36 (by omega)).trans ((u121.2 63 36 (by omega)).trans ((fr115 63 36 rfl).trans ((fr83 63 36 rfl).trans ((fr79 63 36 rfl).trans ((u69.2 63 36 (by omega)).trans ((fr65 63 36 rfl).trans ((fr61 63 36 rfl).trans ((u51.2 63 36 (by omega)).trans ((fr47 63 36 rfl).trans ((fr43 63 36 rfl).trans ((u33.2 63 36 (by omega)).trans ((fr29 63 36 rfl).trans ((fr25 63 36 rfl).trans ((u15.2 63 36 (by omega)).trans ((fr11 63 36 rfl).trans ((fr5 63 36 rfl).trans v1e))))))))))))))))) ?_
            refine s_dup2 kx_207_230 rfl rfl ?_
            refine r_aldK (k := 69) kx_207_231 (tk_69 hT) ⟨by omega, by omega⟩ ((u131.2 69 _ (by omega)).trans ((u121.2 69 _ (by omega)).trans ((fr115 69 _ rfl).trans ((fr83 69 _ rfl).trans ((fr79 69 _ rfl).trans ((u69.2 69 _ (by omega)).trans ((fr65 69 _ rfl).trans ((fr61 69 _ rfl).trans ((u51.2 69 _ (by omega)).trans ((fr47 69 _ rfl).trans ((fr43 69 _ rfl).trans ((u33.2 69 _ (by omega)).trans ((fr29 69 _ rfl).trans ((fr25 69 _ rfl).trans ((u15.2 69 _ (by omega)).trans ((fr11 69 _ rfl).trans ((fr5 69 _ rfl).trans v2e))))))))))))))))) ?_
            refine s_iconst (v := 1) kx_207_232 (by decide) ?_
            refine r_add kx_207_233 ⟨by omega, by omega⟩ ?_
            refine r_ast (k := 69) kx_207_234 (tk_69 hT) ⟨by omega, by omega⟩ hI131 (ru_69 (by omega) (by omega)) (fun M140 hI140 u140 => ?_)
            have hFm140 := hFm131.up u140 rfl
            have tr141 := (u140.2 63 3 (by omega))
            have tr142 := (u140.2 63 4 (by omega))
            have tr143 := (u140.2 63 5 (by omega))
            have tr144 := (u140.2 63 9 (by omega))
            have tr145 := (u140.2 63 10 (by omega))
            have tr146 := (u140.2 63 36 (by omega))
            have hkx147 := (KB.up1 hkx138 u140 (by decide) ⟨by omega, by omega⟩)
            have hk148 : M140 63 9 = v90 := ((u140.2 63 9 (by omega)).trans ((u131.2 63 9 (by omega)).trans ((u121.2 63 9 (by omega)).trans ((fr115 63 9 rfl).trans v90e))))
            exact s_vret kx_207_235 kq_207 ⟨_, rfl, rfl, hI140, hFm140, ⟨⟨(LXp.up (LXp.up (LXp.up (show LXp M115 from v114p.2.2) u121 (Or.inl (by decide))) u131 (Or.inl (by decide))) u140 (Or.inl (by decide))), by omega, by omega, by unfold PRd; omega, ⟨(by rw [← per_seq (s := s) (n := n) (D := D) (q := q) (w := v64) ⟨hq0, hqn⟩ (by omega) hpw, hm_z (hm_in ⟨hq0, hqn⟩) hpz.1, if_neg (by omega)]; exact (Yst.up (Yst.up (Yst.up (show Yst M115 s n 0 (owE s n (owE s n (owE s n (owE s n (owE s n (owE s n (owE s n (owE s n (owE s n (owE s n q)))))))))) from Or.inr ⟨rfl, by omega, v114p.1⟩) u121 ⟨by decide, Or.inl (by decide)⟩) u131 ⟨by decide, Or.inl (by decide)⟩) u140 ⟨by decide, Or.inl (by decide)⟩)), fun _ => by unfold owPerD; exact RSD.addP hRS139 ((u131.2 63 36 (by omega)).trans ((u121.2 63 36 (by omega)).trans ((fr115 63 36 rfl).trans ((fr83 63 36 rfl).trans ((fr79 63 36 rfl).trans ((u69.2 63 36 (by omega)).trans ((fr65 63 36 rfl).trans ((fr61 63 36 rfl).trans ((u51.2 63 36 (by omega)).trans ((fr47 63 36 rfl).trans ((fr43 63 36 rfl).trans ((u33.2 63 36 (by omega)).trans ((fr29 63 36 rfl).trans ((fr25 63 36 rfl).trans ((u15.2 63 36 (by omega)).trans ((fr11 63 36 rfl).trans ((fr5 63 36 rfl).trans v1e))))))))))))))))) (by omega) (by omega) (by rw [(show (8 * v1 + D 0 1).toNat = (((8 * v1) + v2)).toNat by congr 1; omega), ((u131.2 84 _ (by omega)).trans ((u121.2 84 _ (by omega)).trans ((fr115 84 _ rfl).trans ((fr83 84 _ rfl).trans ((fr79 84 _ rfl).trans ((u69.2 84 _ (by omega)).trans ((fr65 84 _ rfl).trans ((fr61 84 _ rfl).trans ((u51.2 84 _ (by omega)).trans ((fr47 84 _ rfl).trans ((fr43 84 _ rfl).trans ((u33.2 84 _ (by omega)).trans ((fr29 84 _ rfl).trans ((fr25 84 _ rfl).trans u15.1))))))))))))))]; exact v10p.2.2.2.2.2 z1) (by rw [(show (8 * v1 + D 0 1).toNat = (((8 * v1) + v2)).toNat by congr 1; omega), ((u131.2 70 _ (by omega)).trans ((u121.2 70 _ (by omega)).trans ((fr115 70 _ rfl).trans ((fr83 70 _ rfl).trans ((fr79 70 _ rfl).trans ((u69.2 70 _ (by omega)).trans ((fr65 70 _ rfl).trans ((fr61 70 _ rfl).trans ((u51.2 70 _ (by omega)).trans ((fr47 70 _ rfl).trans ((fr43 70 _ rfl).trans u33.1)))))))))))]; exact v28p.2.2.2.2.2 z2) (by rw [(show (8 * v1 + D 0 1).toNat = (((8 * v1) + v2)).toNat by congr 1; omega), ((u131.2 71 _ (by omega)).trans ((u121.2 71 _ (by omega)).trans ((fr115 71 _ rfl).trans ((fr83 71 _ rfl).trans ((fr79 71 _ rfl).trans ((u69.2 71 _ (by omega)).trans ((fr65 71 _ rfl).trans ((fr61 71 _ rfl).trans u51.1))))))))]; exact v46p.2.2.2.2.2 z3) (by rw [(show (8 * v1 + D 0 1).toNat = (((8 * v1) + v2)).toNat by congr 1; omega), ((u131.2 72 _ (by omega)).trans ((u121.2 72 _ (by omega)).trans ((fr115 72 _ rfl).trans ((fr83 72 _ rfl).trans ((fr79 72 _ rfl).trans u69.1)))))]; exact hpw) (by rw [(show (8 * v1 + D 0 1).toNat = (((8 * v1) + v2)).toNat by congr 1; omega)]; exact u131.1) (by rw [(show (8 * v1 + D 0 1).toNat = (((8 * v1) + v2)).toNat by congr 1; omega), ((u131.2 73 _ (by omega)).trans u121.1)]; exact hpr1) (by rw [show D 0 1 + 1 = (v2 + 1) by omega]; exact u140)⟩⟩, hkx147⟩⟩
          · refine s_aload_n kx_207_187 rfl ?_
            refine s_iconst (v := 3) kx_207_188 (by decide) ?_
            refine s_aload_n kx_207_189 rfl ?_
            refine r_getI (k := 63) (f := 4) kx_207_190 kp_207_23 (tk_63 hT) kf_12_4 (fun _ => rfl) (rg_63_4 hI83) (fun v149 v149e v149a v149b => ?_)
            refine s_callV2 (k := 63) (s1 := 3) (s2 := 0) (as := [(0, v149), (0, 3)]) (rest := []) kx_207_193 kp_207_263 (Or.inl rfl) rfl (tk_63 hT) ki_176 kcl_176 rfl rfl (by decide) (f_176 (d := d + 2) (kind := 3) (place := v149) hT hI83 (by omega)) (kV (fun M151 hI151 fr151 v150p => ?_))
            have hFm151 := hFm83.call fr151 rfl
            have tr152 := (fr151 63 3 rfl)
            have tr153 := (fr151 63 4 rfl)
            have tr154 := (fr151 63 5 rfl)
            have tr155 := (fr151 63 6 rfl)
            have tr156 := (fr151 63 36 rfl)
            have tr157 := rg_63_9 hI151
            refine s_aload_n kx_207_196 rfl ?_
            refine r_getI (k := 63) (f := 9) kx_207_197 kp_207_39 (tk_63 hT) kf_12_9 (fun _ => rfl) (rg_63_9 hI151) (fun v158 v158e v158a v158b => ?_)
            refine s_if_le (t := 204) kx_207_200 (by decide) (fun hc159 => ?_) (fun hc159 => ?_)
            · exact absurd h639 (by omega)
            · have hk160 : M151 63 4 = v149 := ((fr151 63 4 rfl).trans v149e)
              have hk161 : M151 63 9 = v158 := v158e
              exact s_vret kx_207_203 kq_207 ⟨_, rfl, rfl, hI151, hFm151, ⟨⟨(LXp.fr (LXp.fr v78p.1 fr83 rfl) fr151 rfl), by omega, by omega, by unfold PRd; omega, ⟨(by rw [← per_seq (s := s) (n := n) (D := D) (q := q) (w := v64) ⟨hq0, hqn⟩ (by omega) hpw, hm_z (hm_in ⟨hq0, hqn⟩) hpz.1, if_pos (by omega)]; exact yst_bl (k := 3) (x := owB s n (owE s n (owE s n (owE s n (owE s n (owE s n (owE s n (owE s n (owE s n (owE s n q)))))))))) (by omega) (by omega) (by decide) (by omega) (by omega)), fun g => by exfalso; rw [← per_seq (s := s) (n := n) (D := D) (q := q) (w := v64) ⟨hq0, hqn⟩ (by omega) hpw, hm_z (hm_in ⟨hq0, hqn⟩) hpz.1, if_pos (by omega)] at g; omega⟩⟩, (KB.fr (KB.fr (KB.fr hkx76 fr79 rfl) fr83 rfl) fr151 rfl)⟩⟩
    · have hc162 := v4p.2.2.2.resolve_left (by omega)
      have hc162a := hc162.2.1
      exact s_vret kx_207_26 kq_207 ⟨_, rfl, rfl, hI5, hFm5, ⟨⟨v4p.1, by omega, by omega, by unfold PRd; omega, ⟨(Or.inl (by rw [show owPerF s n D q = 60000 + owB s n q by unfold owPerF; (repeat' split) <;> omega]; exact hc162.2.2.1)), fun g => by exfalso; rw [show owPerF s n D q = 60000 + owB s n q by unfold owPerF; (repeat' split) <;> omega] at g; exact hc162.2.2.1.1 g⟩⟩, (KB.fr hKX fr5 rfl)⟩⟩
  · refine s_iconst (v := 1) kx_207_15 (by decide) ?_
    refine s_goto (t := 20) kx_207_16 (by decide) ?_
    refine s_callV2 (k := 63) (s1 := 2) (s2 := 0) (as := [(0, 1)]) (rest := []) kx_207_20 kp_207_386 (Or.inl rfl) rfl (tk_63 hT) ki_199 kcl_199 rfl rfl (by decide) (f_199 (d := d) (full := 1) hT hI hX hY hn (by omega)) (kW (fun v163 M164 hI164 fr164 v163p => ?_))
    have hFm164 := hFm.call fr164 rfl
    have tr165 := (fr164 63 36 rfl)
    have tr166 := rg_63_9 hI164
    refine s_if_ne (t := 27) kx_207_23 (by decide) (fun hc167 => ?_) (fun hc167 => ?_)
    · have hc168 := v163p.2.2.2.resolve_right (by omega)
      have hc168a := hc168.2.1
      refine s_bipush (v := 8) kx_207_27 (by decide) ?_
      refine s_aload_n kx_207_29 rfl ?_
      refine r_getK (k := 63) (f := 36) kx_207_30 kp_207_121 (tk_63 hT) kf_12_36 (fun _ => rfl) ((fr164 63 36 rfl).trans v1e) ?_
      refine r_mul kx_207_33 ⟨by omega, by omega⟩ ?_
      refine s_aload_n kx_207_34 rfl ?_
      refine r_getR (k := 63) (f := 19) (k2 := 69) kx_207_35 kp_207_69 (tk_63 hT) kf_12_19 (by decide) (rq_63_19 hI164) ?_
      refine s_aload_n kx_207_38 rfl ?_
      refine r_getK (k := 63) (f := 36) kx_207_39 kp_207_121 (tk_63 hT) kf_12_36 (fun _ => rfl) ((fr164 63 36 rfl).trans v1e) ?_
      refine r_aldK (k := 69) kx_207_42 (tk_69 hT) ⟨by omega, by omega⟩ ((fr164 69 _ rfl).trans v2e) ?_
      refine r_add kx_207_43 ⟨by omega, by omega⟩ ?_
      refine s_istore_n kx_207_44 km_207_1 rfl ?_
      refine s_aload_n kx_207_45 rfl ?_
      refine r_getR (k := 63) (f := 34) (k2 := 84) kx_207_46 kp_207_115 (tk_63 hT) kf_12_34 (by decide) (rq_63_34 hI164) ?_
      refine s_iload_n kx_207_49 rfl ?_
      refine s_aload_n kx_207_50 rfl ?_
      refine s_callV2 (k := 63) (s1 := 1) (s2 := 2) (as := []) (rest := [(0, ((8 * v1) + v2)), rf 84]) kx_207_51 kp_207_390 (Or.inl rfl) rfl (tk_63 hT) ki_201 kcl_201 rfl rfl (by decide) (f_201 (d := d) hT hI164 v163p.1 (show Yst M164 s n 0 (owE s n q) from Or.inr ⟨rfl, hc168.2.1.2.2, hc168.2.2⟩) hn (RSD.fr hR fr164 rfl)) (kW (fun v169 M170 hI170 fr170 v169p => ?_))
      have hFm170 := hFm164.call fr170 rfl
      have tr171 := (fr170 63 36 rfl)
      have tr172 := rg_63_9 hI170
      have hk173 : M170 63 36 = v1 := ((fr170 63 36 rfl).trans ((fr164 63 36 rfl).trans v1e))
      refine r_last (k := 84) kx_207_54 (tk_84 hT) ⟨by omega, by omega⟩ hI170 ru_84 (fun M174 hI174 u174 => ?_)
      have hFm174 := hFm170.up u174 rfl
      have tr175 := (u174.2 63 3 (by omega))
      have tr176 := (u174.2 63 4 (by omega))
      have tr177 := (u174.2 63 5 (by omega))
      have tr178 := (u174.2 63 9 (by omega))
      have tr179 := (u174.2 63 10 (by omega))
      have tr180 := (u174.2 63 36 (by omega))
      have hkx181 := (KB.up8 (KB.fr (KB.fr hKX fr164 rfl) fr170 rfl) u174 (by decide) ⟨by omega, by omega⟩)
      have hRS182 := RSD.upk (RSD.fr (RSD.fr hR fr164 rfl) fr170 rfl) u174 (by omega) ⟨by omega, by omega⟩ (by omega)
      refine s_aload_n kx_207_55 rfl ?_
      refine s_ldc2_w kx_207_56 kp_207_301 ?_
      refine s_callV2 (k := 63) (s1 := 3) (s2 := 0) (as := [(1, 126943973305959)]) (rest := []) kx_207_59 kp_207_394 (Or.inl rfl) rfl (tk_63 hT) ki_200 kcl_200 rfl rfl (by decide) (f_200 (d := d) (w := 126943973305959) hT hI174 (LXp.up v169p.1 u174 (Or.inl (by decide))) (Yst.up v169p.2.2.2.2.1 u174 ⟨by decide, Or.inl (by decide)⟩) hn (w5 := 659111367) n58_strong (Or.inr (by decide)) (by omega)) (kV (fun M184 hI184 fr184 v183p => ?_))
      have hFm184 := hFm174.call fr184 rfl
      have tr185 := (fr184 63 36 rfl)
      have tr186 := rg_63_9 hI184
      refine s_aload_n kx_207_62 rfl ?_
      refine r_getR (k := 63) (f := 20) (k2 := 70) kx_207_63 kp_207_72 (tk_63 hT) kf_12_20 (by decide) (rq_63_20 hI184) ?_
      refine s_iload_n kx_207_66 rfl ?_
      refine s_aload_n kx_207_67 rfl ?_
      refine s_iconst (v := 1) kx_207_68 (by decide) ?_
      refine s_bipush (v := 99) kx_207_69 (by decide) ?_
      refine s_callV2 (k := 63) (s1 := 3) (s2 := 2) (as := [(0, 99), (0, 1)]) (rest := [(0, ((8 * v1) + v2)), rf 70]) kx_207_71 kp_207_398 (Or.inl rfl) rfl (tk_63 hT) ki_188 kcl_188 rfl rfl (by decide) (f_188 (d := d) (low := 1) (high := 99) hT hI184 v183p.1 v183p.2.2.2.2 hn) (kW (fun v187 M188 hI188 fr188 v187p => ?_))
      have hFm188 := hFm184.call fr188 rfl
      have tr189 := (fr188 63 36 rfl)
      have tr190 := rg_63_9 hI188
      have hk191 : M188 63 36 = v1 := ((fr188 63 36 rfl).trans ((fr184 63 36 rfl).trans ((u174.2 63 36 (by omega)).trans ((fr170 63 36 rfl).trans ((fr164 63 36 rfl).trans v1e)))))
      refine r_ast (k := 70) kx_207_74 (tk_70 hT) ⟨by omega, by omega⟩ hI188 ru_70 (fun M192 hI192 u192 => ?_)
      have hFm192 := hFm188.up u192 rfl
      have tr193 := (u192.2 63 3 (by omega))
      have tr194 := (u192.2 63 4 (by omega))
      have tr195 := (u192.2 63 5 (by omega))
      have tr196 := (u192.2 63 9 (by omega))
      have tr197 := (u192.2 63 10 (by omega))
      have tr198 := (u192.2 63 36 (by omega))
      have hkx199 := (KB.up8 (KB.fr (KB.fr hkx181 fr184 rfl) fr188 rfl) u192 (by decide) ⟨by omega, by omega⟩)
      have hRS200 := RSD.upk (RSD.fr (RSD.fr hRS182 fr184 rfl) fr188 rfl) u192 (by omega) ⟨by omega, by omega⟩ (by omega)
      refine s_aload_n kx_207_75 rfl ?_
      refine s_ldc2_w kx_207_76 kp_207_303 ?_
      refine s_callV2 (k := 63) (s1 := 3) (s2 := 0) (as := [(1, 426952976754)]) (rest := []) kx_207_79 kp_207_394 (Or.inl rfl) rfl (tk_63 hT) ki_200 kcl_200 rfl rfl (by decide) (f_200 (d := d) (w := 426952976754) hT hI192 (LXp.up v187p.1 u192 (Or.inl (by decide))) (Yst.up v187p.2.2.2.2.1 u192 ⟨by decide, Or.inl (by decide)⟩) hn (w5 := 109094464) n58_chair (Or.inr (by decide)) (by omega)) (kV (fun M202 hI202 fr202 v201p => ?_))
      have hFm202 := hFm192.call fr202 rfl
      have tr203 := (fr202 63 36 rfl)
      have tr204 := rg_63_9 hI202
      refine s_aload_n kx_207_82 rfl ?_
      refine r_getR (k := 63) (f := 21) (k2 := 71) kx_207_83 kp_207_75 (tk_63 hT) kf_12_21 (by decide) (rq_63_21 hI202) ?_
      refine s_iload_n kx_207_86 rfl ?_
      refine s_aload_n kx_207_87 rfl ?_
      refine s_iconst (v := 1) kx_207_88 (by decide) ?_
      refine s_bipush (v := 99) kx_207_89 (by decide) ?_
      refine s_callV2 (k := 63) (s1 := 3) (s2 := 2) (as := [(0, 99), (0, 1)]) (rest := [(0, ((8 * v1) + v2)), rf 71]) kx_207_91 kp_207_398 (Or.inl rfl) rfl (tk_63 hT) ki_188 kcl_188 rfl rfl (by decide) (f_188 (d := d) (low := 1) (high := 99) hT hI202 v201p.1 v201p.2.2.2.2 hn) (kW (fun v205 M206 hI206 fr206 v205p => ?_))
      have hFm206 := hFm202.call fr206 rfl
      have tr207 := (fr206 63 36 rfl)
      have tr208 := rg_63_9 hI206
      have hk209 : M206 63 36 = v1 := ((fr206 63 36 rfl).trans ((fr202 63 36 rfl).trans ((u192.2 63 36 (by omega)).trans ((fr188 63 36 rfl).trans ((fr184 63 36 rfl).trans ((u174.2 63 36 (by omega)).trans ((fr170 63 36 rfl).trans ((fr164 63 36 rfl).trans v1e))))))))
      refine r_ast (k := 71) kx_207_94 (tk_71 hT) ⟨by omega, by omega⟩ hI206 ru_71 (fun M210 hI210 u210 => ?_)
      have hFm210 := hFm206.up u210 rfl
      have tr211 := (u210.2 63 3 (by omega))
      have tr212 := (u210.2 63 4 (by omega))
      have tr213 := (u210.2 63 5 (by omega))
      have tr214 := (u210.2 63 9 (by omega))
      have tr215 := (u210.2 63 10 (by omega))
      have tr216 := (u210.2 63 36 (by omega))
      have hkx217 := (KB.up8 (KB.fr (KB.fr hkx199 fr202 rfl) fr206 rfl) u210 (by decide) ⟨by omega, by omega⟩)
      have hRS218 := RSD.upk (RSD.fr (RSD.fr hRS200 fr202 rfl) fr206 rfl) u210 (by omega) ⟨by omega, by omega⟩ (by omega)
      refine s_aload_n kx_207_95 rfl ?_
      refine s_ldc2_w kx_207_96 kp_207_305 ?_
      refine s_callV2 (k := 63) (s1 := 3) (s2 := 0) (as := [(1, 2003395685)]) (rest := []) kx_207_99 kp_207_394 (Or.inl rfl) rfl (tk_63 hT) ki_200 kcl_200 rfl rfl (by decide) (f_200 (d := d) (w := 2003395685) hT hI210 (LXp.up v205p.1 u210 (Or.inl (by decide))) (Yst.up v205p.2.2.2.2.1 u210 ⟨by decide, Or.inl (by decide)⟩) hn (w5 := 781325312) n58_wide (Or.inr (by decide)) (by omega)) (kV (fun M220 hI220 fr220 v219p => ?_))
      have hFm220 := hFm210.call fr220 rfl
      have tr221 := (fr220 63 36 rfl)
      have tr222 := rg_63_9 hI220
      refine s_aload_n kx_207_102 rfl ?_
      refine r_getR (k := 63) (f := 22) (k2 := 72) kx_207_103 kp_207_78 (tk_63 hT) kf_12_22 (by decide) (rq_63_22 hI220) ?_
      refine s_iload_n kx_207_106 rfl ?_
      refine s_aload_n kx_207_107 rfl ?_
      refine s_iconst (v := 1) kx_207_108 (by decide) ?_
      refine s_bipush (v := 9) kx_207_109 (by decide) ?_
      refine s_callV2 (k := 63) (s1 := 3) (s2 := 2) (as := [(0, 9), (0, 1)]) (rest := [(0, ((8 * v1) + v2)), rf 72]) kx_207_111 kp_207_398 (Or.inl rfl) rfl (tk_63 hT) ki_188 kcl_188 rfl rfl (by decide) (f_188 (d := d) (low := 1) (high := 9) hT hI220 v219p.1 v219p.2.2.2.2 hn) (kW (fun v223 M224 hI224 fr224 v223p => ?_))
      have hFm224 := hFm220.call fr224 rfl
      have tr225 := (fr224 63 36 rfl)
      have tr226 := rg_63_9 hI224
      have hk227 : M224 63 36 = v1 := ((fr224 63 36 rfl).trans ((fr220 63 36 rfl).trans ((u210.2 63 36 (by omega)).trans ((fr206 63 36 rfl).trans ((fr202 63 36 rfl).trans ((u192.2 63 36 (by omega)).trans ((fr188 63 36 rfl).trans ((fr184 63 36 rfl).trans ((u174.2 63 36 (by omega)).trans ((fr170 63 36 rfl).trans ((fr164 63 36 rfl).trans v1e)))))))))))
      refine r_ast (k := 72) kx_207_114 (tk_72 hT) ⟨by omega, by omega⟩ hI224 ru_72 (fun M228 hI228 u228 => ?_)
      have hFm228 := hFm224.up u228 rfl
      have tr229 := (u228.2 63 3 (by omega))
      have tr230 := (u228.2 63 4 (by omega))
      have tr231 := (u228.2 63 5 (by omega))
      have tr232 := (u228.2 63 9 (by omega))
      have tr233 := (u228.2 63 10 (by omega))
      have tr234 := (u228.2 63 36 (by omega))
      have hkx235 := (KB.up8 (KB.fr (KB.fr hkx217 fr220 rfl) fr224 rfl) u228 (by decide) ⟨by omega, by omega⟩)
      have hRS236 := RSD.upk (RSD.fr (RSD.fr hRS218 fr220 rfl) fr224 rfl) u228 (by omega) ⟨by omega, by omega⟩ (by omega)
      refine s_aload_n kx_207_115 rfl ?_
      refine s_ldc2_w kx_207_116 kp_207_307 ?_
      refine s_callV2 (k := 63) (s1 := 3) (s2 := 0) (as := [(1, 24948)]) (rest := []) kx_207_119 kp_207_394 (Or.inl rfl) rfl (tk_63 hT) ki_200 kcl_200 rfl rfl (by decide) (f_200 (d := d) (w := 24948) hT hI228 (LXp.up v223p.1 u228 (Or.inl (by decide))) (Yst.up v223p.2.2.2.2.1 u228 ⟨by decide, Or.inl (by decide)⟩) hn (w5 := 54525952) n58_at (Or.inr (by decide)) (by omega)) (kV (fun M238 hI238 fr238 v237p => ?_))
      have hFm238 := hFm228.call fr238 rfl
      have tr239 := (fr238 63 36 rfl)
      have tr240 := rg_63_9 hI238
      refine s_aload_n kx_207_122 rfl ?_
      refine s_iconst (v := 0) kx_207_123 (by decide) ?_
      refine s_callV2 (k := 63) (s1 := 2) (s2 := 0) (as := [(0, 0)]) (rest := []) kx_207_124 kp_207_383 (Or.inl rfl) rfl (tk_63 hT) ki_202 kcl_202 rfl rfl (by decide) (f_202 (d := d) (kind := 0) hT hI238 v237p.2.2.2.2 hn (RSD.fr hRS236 fr238 rfl) (by omega)) (kW (fun v241 M242 hI242 fr242 v241p => ?_))
      have hFm242 := hFm238.call fr242 rfl
      have tr243 := (fr242 63 3 rfl)
      have tr244 := (fr242 63 4 rfl)
      have tr245 := (fr242 63 5 rfl)
      have tr246 := (fr242 63 6 rfl)
      have tr247 := (fr242 63 36 rfl)
      have tr248 := rg_63_9 hI242
      refine s_istore_n kx_207_127 km_207_2 rfl ?_
      refine s_aload_n kx_207_128 rfl ?_
      refine r_getI (k := 63) (f := 9) kx_207_129 kp_207_39 (tk_63 hT) kf_12_9 (fun _ => rfl) (rg_63_9 hI242) (fun v249 v249e v249a v249b => ?_)
      refine s_if_ne (t := 196) kx_207_132 (by decide) (fun hc250 => ?_) (fun hc250 => ?_)
      · refine s_aload_n kx_207_196 rfl ?_
        refine r_getK (k := 63) (f := 9) kx_207_197 kp_207_39 (tk_63 hT) kf_12_9 (fun _ => rfl) v249e ?_
        refine s_if_le (t := 204) kx_207_200 (by decide) (fun hc251 => absurd hc251 (by omega)) (fun hc251 => ?_)
        have hk252 : M242 63 9 = v249 := v249e
        exact s_vret kx_207_203 kq_207 ⟨_, rfl, rfl, hI242, hFm242, ⟨⟨(LXp.fr v237p.1 fr242 rfl), by omega, by omega, by unfold PRd; omega, ⟨(by rw [← per_seq (s := s) (n := n) (D := D) (q := q) (w := owV s n (owE s n (owE s n (owE s n (owE s n (owE s n (owE s n (owE s n q)))))))) ⟨hq0, hqn⟩ (by omega) rfl, hm_pos (hm_in ⟨hq0, hqn⟩) (Yst.pos v241p.2.2.2.2.1 (by omega)).1]; exact yst_is rfl v241p.2.2.2.2.1 (Yst.pos v241p.2.2.2.2.1 (by omega)).1), fun g => by rw [← per_seq (s := s) (n := n) (D := D) (q := q) (w := owV s n (owE s n (owE s n (owE s n (owE s n (owE s n (owE s n (owE s n q)))))))) ⟨hq0, hqn⟩ (by omega) rfl, hm_pos (hm_in ⟨hq0, hqn⟩) (Yst.pos v241p.2.2.2.2.1 (by omega)).1] at g; exact absurd g (Yst.pos v241p.2.2.2.2.1 (by omega)).1⟩⟩, (KB.fr (KB.fr hkx235 fr238 rfl) fr242 rfl)⟩⟩
      · have hpz := (Yst.zero v241p.2.2.2.2.1 (by omega))
        have hpr := (v241p.2.2.2.2.2 hpz.1)
        have hpr1 := hpr.1
        rw [yRi] at hpr1
        have hpc : yCt D 0 = D 0 0 := rfl
        have hpr2 := hpr.2.1
        have z5 := yKr_f hpz.1
        have z4 := yMu_f z5
        have hpw := v223p.2.2.2.2.2 z4
        have hpl := hpz.2.b hn
        have hpp := hpz.2.2.2.1
        have z3 := yMu_f (yNu_f z4)
        have z2 := yMu_f (yNu_f z3)
        have z1 := yMu_f (yNu_f z2)
        refine s_aload_n kx_207_135 rfl ?_
        refine r_getR (k := 63) (f := 16) (k2 := 66) kx_207_136 kp_207_60 (tk_63 hT) kf_12_16 (by decide) (rq_63_16 hI242) ?_
        refine s_bipush (v := 8) kx_207_139 (by decide) ?_
        refine s_aload_n kx_207_141 rfl ?_
        refine r_getK (k := 63) (f := 36) kx_207_142 kp_207_121 (tk_63 hT) kf_12_36 (fun _ => rfl) ((fr242 63 36 rfl).trans ((fr238 63 36 rfl).trans ((u228.2 63 36 (by omega)).trans ((fr224 63 36 rfl).trans ((fr220 63 36 rfl).trans ((u210.2 63 36 (by omega)).trans ((fr206 63 36 rfl).trans ((fr202 63 36 rfl).trans ((u192.2 63 36 (by omega)).trans ((fr188 63 36 rfl).trans ((fr184 63 36 rfl).trans ((u174.2 63 36 (by omega)).trans ((fr170 63 36 rfl).trans ((fr164 63 36 rfl).trans v1e)))))))))))))) ?_
        refine r_mul kx_207_145 ⟨by omega, by omega⟩ ?_
        refine s_iload_n kx_207_146 rfl ?_
        refine r_add kx_207_147 ⟨by omega, by omega⟩ ?_
        refine r_aldU (k := 66) kx_207_148 (tk_66 hT) ⟨by omega, by omega⟩ (fun v253 v253e => ?_)
        refine s_aload_n kx_207_149 rfl ?_
        refine r_getR (k := 63) (f := 22) (k2 := 72) kx_207_150 kp_207_78 (tk_63 hT) kf_12_22 (by decide) (rq_63_22 hI242) ?_
        refine s_iload_n kx_207_153 rfl ?_
        refine r_aldK (k := 72) kx_207_154 (tk_72 hT) ⟨by omega, by omega⟩ ((fr242 72 _ rfl).trans ((fr238 72 _ rfl).trans u228.1)) ?_
        have hrr := (RSD.fr (RSD.fr hRS236 fr238 rfl) fr242 rfl).room ((fr242 63 36 rfl).trans ((fr238 63 36 rfl).trans ((u228.2 63 36 (by omega)).trans ((fr224 63 36 rfl).trans ((fr220 63 36 rfl).trans ((u210.2 63 36 (by omega)).trans ((fr206 63 36 rfl).trans ((fr202 63 36 rfl).trans ((u192.2 63 36 (by omega)).trans ((fr188 63 36 rfl).trans ((fr184 63 36 rfl).trans ((u174.2 63 36 (by omega)).trans ((fr170 63 36 rfl).trans ((fr164 63 36 rfl).trans v1e)))))))))))))) (j := v241) (by omega) (by omega)
        have hrd : v253 = D 2 (v241).toNat := v253e.symm.trans hrr.1
        rw [hpr1] at hrd
        have hwr : 1 ≤ v223 ∧ v223 ≤ 9 := by have hnb := v223p.2.2.2.1; unfold NBd at hnb; omega
        refine s_icmp_lt (t := 187) kx_207_155 (by decide) (fun hc254 => ?_) (fun hc254 => ?_)
        · refine s_aload_n kx_207_187 rfl ?_
          refine s_iconst (v := 3) kx_207_188 (by decide) ?_
          refine s_aload_n kx_207_189 rfl ?_
          refine r_getI (k := 63) (f := 4) kx_207_190 kp_207_23 (tk_63 hT) kf_12_4 (fun _ => rfl) (rg_63_4 hI242) (fun v255 v255e v255a v255b => ?_)
          refine s_callV2 (k := 63) (s1 := 3) (s2 := 0) (as := [(0, v255), (0, 3)]) (rest := []) kx_207_193 kp_207_263 (Or.inl rfl) rfl (tk_63 hT) ki_176 kcl_176 rfl rfl (by decide) (f_176 (d := d + 2) (kind := 3) (place := v255) hT hI242 (by omega)) (kV (fun M257 hI257 fr257 v256p => ?_))
          have hFm257 := hFm242.call fr257 rfl
          have tr258 := (fr257 63 3 rfl)
          have tr259 := (fr257 63 4 rfl)
          have tr260 := (fr257 63 5 rfl)
          have tr261 := (fr257 63 6 rfl)
          have tr262 := (fr257 63 36 rfl)
          have tr263 := rg_63_9 hI257
          refine s_aload_n kx_207_196 rfl ?_
          refine r_getI (k := 63) (f := 9) kx_207_197 kp_207_39 (tk_63 hT) kf_12_9 (fun _ => rfl) (rg_63_9 hI257) (fun v264 v264e v264a v264b => ?_)
          refine s_if_le (t := 204) kx_207_200 (by decide) (fun hc265 => ?_) (fun hc265 => ?_)
          · exact absurd h639 (by omega)
          · have hk266 : M257 63 4 = v255 := ((fr257 63 4 rfl).trans v255e)
            have hk267 : M257 63 9 = v264 := v264e
            exact s_vret kx_207_203 kq_207 ⟨_, rfl, rfl, hI257, hFm257, ⟨⟨(LXp.fr (LXp.fr v237p.1 fr242 rfl) fr257 rfl), by omega, by omega, by unfold PRd; omega, ⟨(by rw [← per_seq (s := s) (n := n) (D := D) (q := q) (w := v223) ⟨hq0, hqn⟩ (by omega) hpw, hm_z (hm_in ⟨hq0, hqn⟩) hpz.1, if_pos (by omega)]; exact yst_bl (k := 3) (x := owB s n (owE s n (owE s n (owE s n (owE s n (owE s n (owE s n (owE s n (owE s n (owE s n q)))))))))) (by omega) (by omega) (by decide) (by omega) (by omega)), fun g => by exfalso; rw [← per_seq (s := s) (n := n) (D := D) (q := q) (w := v223) ⟨hq0, hqn⟩ (by omega) hpw, hm_z (hm_in ⟨hq0, hqn⟩) hpz.1, if_pos (by omega)] at g; omega⟩⟩, (KB.fr (KB.fr (KB.fr hkx235 fr238 rfl) fr242 rfl) fr257 rfl)⟩⟩
        · refine s_aload_n kx_207_158 rfl ?_
          refine s_iload_n kx_207_159 rfl ?_
          refine s_callV2 (k := 63) (s1 := 2) (s2 := 0) (as := [(0, v241)]) (rest := []) kx_207_160 kp_207_404 (Or.inl rfl) rfl (tk_63 hT) ki_206 kcl_206 rfl rfl (by decide) (f_206 (d := d + 2) (r := v241) hT hI242 (RSD.fr (RSD.fr hRS236 fr238 rfl) fr242 rfl) hW) (kF (fun v268 v268p => ?_))
          have hto := v268p
          have htr := owLd_rng hW v241 (D 0 1).toNat (by omega)
          refine s_aload_n kx_207_163 rfl ?_
          refine r_getR (k := 63) (f := 22) (k2 := 72) kx_207_164 kp_207_78 (tk_63 hT) kf_12_22 (by decide) (rq_63_22 hI242) ?_
          refine s_iload_n kx_207_167 rfl ?_
          refine r_aldK (k := 72) kx_207_168 (tk_72 hT) ⟨by omega, by omega⟩ ((fr242 72 _ rfl).trans ((fr238 72 _ rfl).trans u228.1)) ?_
          refine r_add kx_207_169 ⟨by omega, by omega⟩ ?_
          refine s_aload_n kx_207_170 rfl ?_
          refine r_getR (k := 63) (f := 17) (k2 := 67) kx_207_171 kp_207_63 (tk_63 hT) kf_12_17 (by decide) (rq_63_17 hI242) ?_
          refine s_bipush (v := 8) kx_207_174 (by decide) ?_
          refine s_aload_n kx_207_176 rfl ?_
          refine r_getK (k := 63) (f := 36) kx_207_177 kp_207_121 (tk_63 hT) kf_12_36 (fun _ => rfl) ((fr242 63 36 rfl).trans ((fr238 63 36 rfl).trans ((u228.2 63 36 (by omega)).trans ((fr224 63 36 rfl).trans ((fr220 63 36 rfl).trans ((u210.2 63 36 (by omega)).trans ((fr206 63 36 rfl).trans ((fr202 63 36 rfl).trans ((u192.2 63 36 (by omega)).trans ((fr188 63 36 rfl).trans ((fr184 63 36 rfl).trans ((u174.2 63 36 (by omega)).trans ((fr170 63 36 rfl).trans ((fr164 63 36 rfl).trans v1e)))))))))))))) ?_
          refine r_mul kx_207_180 ⟨by omega, by omega⟩ ?_
          refine s_iload_n kx_207_181 rfl ?_
          refine r_add kx_207_182 ⟨by omega, by omega⟩ ?_
          refine r_aldU (k := 67) kx_207_183 (tk_67 hT) ⟨by omega, by omega⟩ (fun v269 v269e => ?_)
          have hrf : v269 = D 3 (v241).toNat := v269e.symm.trans hrr.2
          rw [hpr1] at hrf
          rw [hpr1] at hto
          refine s_icmp_le (t := 196) kx_207_184 (by decide) (fun hc270 => ?_) (fun hc270 => ?_)
          · refine s_aload_n kx_207_196 rfl ?_
            refine r_getK (k := 63) (f := 9) kx_207_197 kp_207_39 (tk_63 hT) kf_12_9 (fun _ => rfl) v249e ?_
            refine s_if_le (t := 204) kx_207_200 (by decide) (fun hc271 => ?_) (fun hc271 => absurd hc271 (by omega))
            refine s_aload_n kx_207_204 rfl ?_
            have hl272 := (show LXp M242 from (LXp.fr v237p.1 fr242 rfl)).1
            refine s_callV2 (k := 63) (s1 := 1) (s2 := 0) (as := []) (rest := []) kx_207_205 kp_207_286 (Or.inl rfl) rfl (tk_63 hT) ki_180 kcl_180 rfl rfl (by decide) (f_180 (d := d + 1) hT hI242 hpz.2.1 hpz.2.2.1 hpz.2.2.2.2.2.2.1 (owE_i2 ⟨hpz.2.2.2.1, hpz.2.2.2.2.1⟩).1 (owE_i2 ⟨hpz.2.2.2.1, hpz.2.2.2.2.1⟩).2 hpz.2.2.2.2.2.2.2.2.2.2.2.2.2) (kV (fun M274 hI274 fr274 v273p => ?_))
            have hFm274 := hFm242.call fr274 rfl
            have tr275 := (fr274 63 9 rfl)
            have tr276 := (fr274 63 10 rfl)
            have tr277 := (fr274 63 36 rfl)
            have tr278 := rg_63_9 hI274
            refine s_aload_n kx_207_208 rfl ?_
            refine r_getR (k := 63) (f := 23) (k2 := 73) kx_207_209 kp_207_81 (tk_63 hT) kf_12_23 (by decide) (rq_63_23 hI274) ?_
            refine s_iload_n kx_207_212 rfl ?_
            refine s_iload_n kx_207_213 rfl ?_
            have hk279 : M274 63 36 = v1 := ((fr274 63 36 rfl).trans ((fr242 63 36 rfl).trans ((fr238 63 36 rfl).trans ((u228.2 63 36 (by omega)).trans ((fr224 63 36 rfl).trans ((fr220 63 36 rfl).trans ((u210.2 63 36 (by omega)).trans ((fr206 63 36 rfl).trans ((fr202 63 36 rfl).trans ((u192.2 63 36 (by omega)).trans ((fr188 63 36 rfl).trans ((fr184 63 36 rfl).trans ((u174.2 63 36 (by omega)).trans ((fr170 63 36 rfl).trans ((fr164 63 36 rfl).trans v1e)))))))))))))))
            refine r_ast (k := 73) kx_207_214 (tk_73 hT) ⟨by omega, by omega⟩ hI274 (ru_73 (by omega) (by omega)) (fun M280 hI280 u280 => ?_)
            have hFm280 := hFm274.up u280 rfl
            have tr281 := (u280.2 63 3 (by omega))
            have tr282 := (u280.2 63 4 (by omega))
            have tr283 := (u280.2 63 5 (by omega))
            have tr284 := (u280.2 63 9 (by omega))
            have tr285 := (u280.2 63 10 (by omega))
            have tr286 := (u280.2 63 36 (by omega))
            have hkx287 := (KB.up8 (KB.fr (KB.fr (KB.fr hkx235 fr238 rfl) fr242 rfl) fr274 rfl) u280 (by decide) ⟨by omega, by omega⟩)
            have hRS288 := RSD.upk (RSD.fr (RSD.fr (RSD.fr hRS236 fr238 rfl) fr242 rfl) fr274 rfl) u280 (by omega) ⟨by omega, by omega⟩ (by omega)
            refine s_aload_n kx_207_215 rfl ?_
            refine r_getR (k := 63) (f := 24) (k2 := 74) kx_207_216 kp_207_84 (tk_63 hT) kf_12_24 (by decide) (rq_63_24 hI280) ?_
            refine s_iload_n kx_207_219 rfl ?_
            refine s_iconst (v := (-1)) kx_207_220 (by decide) ?_
            have hk289 : M280 63 36 = v1 := ((u280.2 63 36 (by omega)).trans ((fr274 63 36 rfl).trans ((fr242 63 36 rfl).trans ((fr238 63 36 rfl).trans ((u228.2 63 36 (by omega)).trans ((fr224 63 36 rfl).trans ((fr220 63 36 rfl).trans ((u210.2 63 36 (by omega)).trans ((fr206 63 36 rfl).trans ((fr202 63 36 rfl).trans ((u192.2 63 36 (by omega)).trans ((fr188 63 36 rfl).trans ((fr184 63 36 rfl).trans ((u174.2 63 36 (by omega)).trans ((fr170 63 36 rfl).trans ((fr164 63 36 rfl).trans v1e))))))))))))))))
            refine r_ast (k := 74) kx_207_221 (tk_74 hT) ⟨by omega, by omega⟩ hI280 (ru_74 (by omega) (by omega)) (fun M290 hI290 u290 => ?_)
            have hFm290 := hFm280.up u290 rfl
            have tr291 := (u290.2 63 3 (by omega))
            have tr292 := (u290.2 63 4 (by omega))
            have tr293 := (u290.2 63 5 (by omega))
            have tr294 := (u290.2 63 9 (by omega))
            have tr295 := (u290.2 63 10 (by omega))
            have tr296 := (u290.2 63 36 (by omega))
            have hkx297 := (KB.up8 hkx287 u290 (by decide) ⟨by omega, by omega⟩)
            have hRS298 := RSD.upk hRS288 u290 (by omega) ⟨by omega, by omega⟩ (by omega)
            refine s_aload_n kx_207_222 rfl ?_
            refine r_getR (k := 63) (f := 19) (k2 := 69) kx_207_223 kp_207_69 (tk_63 hT) kf_12_19 (by decide) (rq_63_19 hI290) ?_
            refine s_aload_n kx_207_226 rfl ?_
            refine r_getK (k := 63) (f := 36) kx_207_227 kp_207_121 (tk_63 hT) kf_12_36 (fun _ => rfl) ((u290.2 63 36 (by omega)).trans ((u280.2 63 36 (by omega)).trans ((fr274 63 36 rfl).trans ((fr242 63 36 rfl).trans ((fr238 63 36 rfl).trans ((u228.2 63 36 (by omega)).trans ((fr224 63 36 rfl).trans ((fr220 63 36 rfl).trans ((u210.2 63 36 (by omega)).trans ((fr206 63 36 rfl).trans ((fr202 63 36 rfl).trans ((u192.2 63 36 (by omega)).trans ((fr188 63 36 rfl).trans ((fr184 63 36 rfl).trans ((u174.2 63 36 (by omega)).trans ((fr170 63 36 rfl).trans ((fr164 63 36 rfl).trans v1e))))))))))))))))) ?_
            refine s_dup2 kx_207_230 rfl rfl ?_
            refine r_aldK (k := 69) kx_207_231 (tk_69 hT) ⟨by omega, by omega⟩ ((u290.2 69 _ (by omega)).trans ((u280.2 69 _ (by omega)).trans ((fr274 69 _ rfl).trans ((fr242 69 _ rfl).trans ((fr238 69 _ rfl).trans ((u228.2 69 _ (by omega)).trans ((fr224 69 _ rfl).trans ((fr220 69 _ rfl).trans ((u210.2 69 _ (by omega)).trans ((fr206 69 _ rfl).trans ((fr202 69 _ rfl).trans ((u192.2 69 _ (by omega)).trans ((fr188 69 _ rfl).trans ((fr184 69 _ rfl).trans ((u174.2 69 _ (by omega)).trans ((fr170 69 _ rfl).trans ((fr164 69 _ rfl).trans v2e))))))))))))))))) ?_
            refine s_iconst (v := 1) kx_207_232 (by decide) ?_
            refine r_add kx_207_233 ⟨by omega, by omega⟩ ?_
            refine r_ast (k := 69) kx_207_234 (tk_69 hT) ⟨by omega, by omega⟩ hI290 (ru_69 (by omega) (by omega)) (fun M299 hI299 u299 => ?_)
            have hFm299 := hFm290.up u299 rfl
            have tr300 := (u299.2 63 3 (by omega))
            have tr301 := (u299.2 63 4 (by omega))
            have tr302 := (u299.2 63 5 (by omega))
            have tr303 := (u299.2 63 9 (by omega))
            have tr304 := (u299.2 63 10 (by omega))
            have tr305 := (u299.2 63 36 (by omega))
            have hkx306 := (KB.up1 hkx297 u299 (by decide) ⟨by omega, by omega⟩)
            have hk307 : M299 63 9 = v249 := ((u299.2 63 9 (by omega)).trans ((u290.2 63 9 (by omega)).trans ((u280.2 63 9 (by omega)).trans ((fr274 63 9 rfl).trans v249e))))
            exact s_vret kx_207_235 kq_207 ⟨_, rfl, rfl, hI299, hFm299, ⟨⟨(LXp.up (LXp.up (LXp.up (show LXp M274 from v273p.2.2) u280 (Or.inl (by decide))) u290 (Or.inl (by decide))) u299 (Or.inl (by decide))), by omega, by omega, by unfold PRd; omega, ⟨(by rw [← per_seq (s := s) (n := n) (D := D) (q := q) (w := v223) ⟨hq0, hqn⟩ (by omega) hpw, hm_z (hm_in ⟨hq0, hqn⟩) hpz.1, if_neg (by omega)]; exact (Yst.up (Yst.up (Yst.up (show Yst M274 s n 0 (owE s n (owE s n (owE s n (owE s n (owE s n (owE s n (owE s n (owE s n (owE s n (owE s n q)))))))))) from Or.inr ⟨rfl, by omega, v273p.1⟩) u280 ⟨by decide, Or.inl (by decide)⟩) u290 ⟨by decide, Or.inl (by decide)⟩) u299 ⟨by decide, Or.inl (by decide)⟩)), fun _ => by unfold owPerD; exact RSD.addP hRS298 ((u290.2 63 36 (by omega)).trans ((u280.2 63 36 (by omega)).trans ((fr274 63 36 rfl).trans ((fr242 63 36 rfl).trans ((fr238 63 36 rfl).trans ((u228.2 63 36 (by omega)).trans ((fr224 63 36 rfl).trans ((fr220 63 36 rfl).trans ((u210.2 63 36 (by omega)).trans ((fr206 63 36 rfl).trans ((fr202 63 36 rfl).trans ((u192.2 63 36 (by omega)).trans ((fr188 63 36 rfl).trans ((fr184 63 36 rfl).trans ((u174.2 63 36 (by omega)).trans ((fr170 63 36 rfl).trans ((fr164 63 36 rfl).trans v1e))))))))))))))))) (by omega) (by omega) (by rw [(show (8 * v1 + D 0 1).toNat = (((8 * v1) + v2)).toNat by congr 1; omega), ((u290.2 84 _ (by omega)).trans ((u280.2 84 _ (by omega)).trans ((fr274 84 _ rfl).trans ((fr242 84 _ rfl).trans ((fr238 84 _ rfl).trans ((u228.2 84 _ (by omega)).trans ((fr224 84 _ rfl).trans ((fr220 84 _ rfl).trans ((u210.2 84 _ (by omega)).trans ((fr206 84 _ rfl).trans ((fr202 84 _ rfl).trans ((u192.2 84 _ (by omega)).trans ((fr188 84 _ rfl).trans ((fr184 84 _ rfl).trans u174.1))))))))))))))]; exact v169p.2.2.2.2.2 z1) (by rw [(show (8 * v1 + D 0 1).toNat = (((8 * v1) + v2)).toNat by congr 1; omega), ((u290.2 70 _ (by omega)).trans ((u280.2 70 _ (by omega)).trans ((fr274 70 _ rfl).trans ((fr242 70 _ rfl).trans ((fr238 70 _ rfl).trans ((u228.2 70 _ (by omega)).trans ((fr224 70 _ rfl).trans ((fr220 70 _ rfl).trans ((u210.2 70 _ (by omega)).trans ((fr206 70 _ rfl).trans ((fr202 70 _ rfl).trans u192.1)))))))))))]; exact v187p.2.2.2.2.2 z2) (by rw [(show (8 * v1 + D 0 1).toNat = (((8 * v1) + v2)).toNat by congr 1; omega), ((u290.2 71 _ (by omega)).trans ((u280.2 71 _ (by omega)).trans ((fr274 71 _ rfl).trans ((fr242 71 _ rfl).trans ((fr238 71 _ rfl).trans ((u228.2 71 _ (by omega)).trans ((fr224 71 _ rfl).trans ((fr220 71 _ rfl).trans u210.1))))))))]; exact v205p.2.2.2.2.2 z3) (by rw [(show (8 * v1 + D 0 1).toNat = (((8 * v1) + v2)).toNat by congr 1; omega), ((u290.2 72 _ (by omega)).trans ((u280.2 72 _ (by omega)).trans ((fr274 72 _ rfl).trans ((fr242 72 _ rfl).trans ((fr238 72 _ rfl).trans u228.1)))))]; exact hpw) (by rw [(show (8 * v1 + D 0 1).toNat = (((8 * v1) + v2)).toNat by congr 1; omega)]; exact u290.1) (by rw [(show (8 * v1 + D 0 1).toNat = (((8 * v1) + v2)).toNat by congr 1; omega), ((u290.2 73 _ (by omega)).trans u280.1)]; exact hpr1) (by rw [show D 0 1 + 1 = (v2 + 1) by omega]; exact u299)⟩⟩, hkx306⟩⟩
          · refine s_aload_n kx_207_187 rfl ?_
            refine s_iconst (v := 3) kx_207_188 (by decide) ?_
            refine s_aload_n kx_207_189 rfl ?_
            refine r_getI (k := 63) (f := 4) kx_207_190 kp_207_23 (tk_63 hT) kf_12_4 (fun _ => rfl) (rg_63_4 hI242) (fun v308 v308e v308a v308b => ?_)
            refine s_callV2 (k := 63) (s1 := 3) (s2 := 0) (as := [(0, v308), (0, 3)]) (rest := []) kx_207_193 kp_207_263 (Or.inl rfl) rfl (tk_63 hT) ki_176 kcl_176 rfl rfl (by decide) (f_176 (d := d + 2) (kind := 3) (place := v308) hT hI242 (by omega)) (kV (fun M310 hI310 fr310 v309p => ?_))
            have hFm310 := hFm242.call fr310 rfl
            have tr311 := (fr310 63 3 rfl)
            have tr312 := (fr310 63 4 rfl)
            have tr313 := (fr310 63 5 rfl)
            have tr314 := (fr310 63 6 rfl)
            have tr315 := (fr310 63 36 rfl)
            have tr316 := rg_63_9 hI310
            refine s_aload_n kx_207_196 rfl ?_
            refine r_getI (k := 63) (f := 9) kx_207_197 kp_207_39 (tk_63 hT) kf_12_9 (fun _ => rfl) (rg_63_9 hI310) (fun v317 v317e v317a v317b => ?_)
            refine s_if_le (t := 204) kx_207_200 (by decide) (fun hc318 => ?_) (fun hc318 => ?_)
            · exact absurd h639 (by omega)
            · have hk319 : M310 63 4 = v308 := ((fr310 63 4 rfl).trans v308e)
              have hk320 : M310 63 9 = v317 := v317e
              exact s_vret kx_207_203 kq_207 ⟨_, rfl, rfl, hI310, hFm310, ⟨⟨(LXp.fr (LXp.fr v237p.1 fr242 rfl) fr310 rfl), by omega, by omega, by unfold PRd; omega, ⟨(by rw [← per_seq (s := s) (n := n) (D := D) (q := q) (w := v223) ⟨hq0, hqn⟩ (by omega) hpw, hm_z (hm_in ⟨hq0, hqn⟩) hpz.1, if_pos (by omega)]; exact yst_bl (k := 3) (x := owB s n (owE s n (owE s n (owE s n (owE s n (owE s n (owE s n (owE s n (owE s n (owE s n q)))))))))) (by omega) (by omega) (by decide) (by omega) (by omega)), fun g => by exfalso; rw [← per_seq (s := s) (n := n) (D := D) (q := q) (w := v223) ⟨hq0, hqn⟩ (by omega) hpw, hm_z (hm_in ⟨hq0, hqn⟩) hpz.1, if_pos (by omega)] at g; omega⟩⟩, (KB.fr (KB.fr (KB.fr hkx235 fr238 rfl) fr242 rfl) fr310 rfl)⟩⟩
    · have hc321 := v163p.2.2.2.resolve_left (by omega)
      have hc321a := hc321.2.1
      exact s_vret kx_207_26 kq_207 ⟨_, rfl, rfl, hI164, hFm164, ⟨⟨v163p.1, by omega, by omega, by unfold PRd; omega, ⟨(Or.inl (by rw [show owPerF s n D q = 60000 + owB s n q by unfold owPerF; (repeat' split) <;> omega]; exact hc321.2.2.1)), fun g => by exfalso; rw [show owPerF s n D q = 60000 + owB s n q by unfold owPerF; (repeat' split) <;> omega] at g; exact hc321.2.2.1.1 g⟩⟩, (KB.fr hKX fr164 rfl)⟩⟩
