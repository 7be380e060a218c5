def gS_204_l97 : List (Nat × Nat) := [(68, 99999)]
def gS_204_m : List (Nat × Nat) := [(63, 10), (63, 13), (63, 3), (63, 4), (63, 5), (63, 6), (63, 7), (63, 8), (63, 9), (65, 99999), (66, 99999), (67, 99999), (68, 99999), (83, 99999)]
theorem f_204 {xs : Nat → Int} {Ln d : Nat} {T : List cK} {M : cM} (hT : TT T) (hI : Rng M) (hX : LXp M) {s : Nat → Int} {n q : Int} {D : cM} (hY : Yst M s n 0 q) (hn : n ≤ 1600) (hR : RSD M D) (hW : DW D) (p0 : M 63 4 + 1 ≤ M 63 5) : cC k_P xs Ln (d + 3) 204 [rf 63] (T, M) (qV T M gS_204_m (fun M1 => LXp M1 ∧ M 63 4 ≤ M1 63 4 ∧ M 63 9 ≤ M1 63 9 ∧ (PRd M M1) ∧ Yst M1 s n (owRoomF s n D q) (owRoomP s n q) ∧ (owRoomF s n D q = 0 → RSD M1 (owRoomD s n D q)))) := by
  show cP k_P xs Ln (d + 3) 204 0 [(0, rf 63)] [] (T, M) _
  have hFm : Fr gS_204_m M M := Fr.refl
  have h639 := rg_63_9 hI
  have hz9 := hY.z.1
  have hzb := hY.z.2.b hn
  have hq0 := hY.z.2.2.2.1
  have hqn := hY.z.2.2.2.2.1
  have hr36 := rg_63_36 hI
  have hq65 := hR.1
  have hq69 := hR.2.1
  have hw0 := hW.1
  have hw1 := hW.2.1
  have hw2 := hW.2.2.1
  have hw3 := hW.2.2.2.1
  refine s_aload_n kx_204_0 rfl ?_
  refine s_aload_n kx_204_1 rfl ?_
  refine r_getR (k := 63) (f := 15) (k2 := 65) kx_204_2 kp_204_57 (tk_63 hT) kf_12_15 (by decide) (rq_63_15 hI) ?_
  refine s_aload_n kx_204_5 rfl ?_
  refine r_getI (k := 63) (f := 36) kx_204_6 kp_204_121 (tk_63 hT) kf_12_36 (fun _ => rfl) (rg_63_36 hI) (fun v1 v1e v1a v1b => ?_)
  have hq65i := hq65
  rw [v1e] at hq65i
  refine r_ald (k := 65) kx_204_9 (tk_65 hT) ⟨by omega, by omega⟩ (rg_65 hI) (fun v2 v2e v2a v2b => ?_)
  refine s_bipush (v := 8) kx_204_10 (by decide) ?_
  refine s_icmp_ne (t := 19) kx_204_12 (by decide) (fun hc3 => ?_) (fun hc3 => ?_)
  · refine s_iconst (v := 0) kx_204_19 (by decide) ?_
    refine s_callV2 (k := 63) (s1 := 2) (s2 := 0) (as := [(0, 0)]) (rest := []) kx_204_20 kp_204_386 (Or.inl rfl) rfl (tk_63 hT) ki_199 kcl_199 rfl rfl (by decide) (f_199 (d := d) (full := 0) hT hI hX hY hn (by omega)) (kW (fun v4 M5 hI5 fr5 v4p => ?_))
    have hFm5 := hFm.call fr5 rfl
    have tr6 := rg_63_9 hI5
    refine s_if_ne (t := 27) kx_204_23 (by decide) (fun hc7 => ?_) (fun hc7 => ?_)
    · have hc8 := v4p.2.2.2.resolve_right (by omega)
      have hc8a := hc8.2.1
      refine s_bipush (v := 8) kx_204_27 (by decide) ?_
      refine s_aload_n kx_204_29 rfl ?_
      refine r_getK (k := 63) (f := 36) kx_204_30 kp_204_121 (tk_63 hT) kf_12_36 (fun _ => rfl) ((fr5 63 36 rfl).trans v1e) ?_
      refine r_mul kx_204_33 ⟨by omega, by omega⟩ ?_
      refine s_aload_n kx_204_34 rfl ?_
      refine r_getR (k := 63) (f := 15) (k2 := 65) kx_204_35 kp_204_57 (tk_63 hT) kf_12_15 (by decide) (rq_63_15 hI5) ?_
      refine s_aload_n kx_204_38 rfl ?_
      refine r_getK (k := 63) (f := 36) kx_204_39 kp_204_121 (tk_63 hT) kf_12_36 (fun _ => rfl) ((fr5 63 36 rfl).trans v1e) ?_
      refine r_aldK (k := 65) kx_204_42 (tk_65 hT) ⟨by omega, by omega⟩ ((fr5 65 _ rfl).trans v2e) ?_
      refine r_add kx_204_43 ⟨by omega, by omega⟩ ?_
      refine s_istore_n kx_204_44 km_204_1 rfl ?_
      refine s_aload_n kx_204_45 rfl ?_
      refine r_getR (k := 63) (f := 33) (k2 := 83) kx_204_46 kp_204_111 (tk_63 hT) kf_12_33 (by decide) (rq_63_33 hI5) ?_
      refine s_iload_n kx_204_49 rfl ?_
      refine s_aload_n kx_204_50 rfl ?_
      refine s_callV2 (k := 63) (s1 := 1) (s2 := 2) (as := []) (rest := [(0, ((8 * v1) + v2)), rf 83]) kx_204_51 kp_204_390 (Or.inl rfl) rfl (tk_63 hT) ki_201 kcl_201 rfl rfl (by decide) (f_201 (d := d) hT hI5 v4p.1 (show Yst M5 s n 0 (owE s n q) from Or.inr ⟨rfl, hc8.2.1.2.2, hc8.2.2⟩) hn (RSD.fr hR fr5 rfl)) (kW (fun v9 M10 hI10 fr10 v9p => ?_))
      have hFm10 := hFm5.call fr10 rfl
      have tr11 := rg_63_9 hI10
      have hk12 : M10 63 36 = v1 := ((fr10 63 36 rfl).trans ((fr5 63 36 rfl).trans v1e))
      refine r_last (k := 83) kx_204_54 (tk_83 hT) ⟨by omega, by omega⟩ hI10 ru_83 (fun M13 hI13 u13 => ?_)
      have hFm13 := hFm10.up u13 rfl
      have tr14 := (u13.2 63 3 (by omega))
      have tr15 := (u13.2 63 4 (by omega))
      have tr16 := (u13.2 63 5 (by omega))
      have tr17 := (u13.2 63 9 (by omega))
      have tr18 := (u13.2 63 10 (by omega))
      have hRS19 := RSD.upk (RSD.fr (RSD.fr hR fr5 rfl) fr10 rfl) u13 (by omega) ⟨by omega, by omega⟩ (by omega)
      refine s_aload_n kx_204_55 rfl ?_
      refine s_ldc2_w kx_204_56 kp_204_291 ?_
      refine s_callV2 (k := 63) (s1 := 3) (s2 := 0) (as := [(1, 1685024626)]) (rest := []) kx_204_59 kp_204_394 (Or.inl rfl) rfl (tk_63 hT) ki_200 kcl_200 rfl rfl (by decide) (f_200 (d := d) (w := 1685024626) hT hI13 (LXp.up v9p.1 u13 (Or.inl (by decide))) (Yst.up v9p.2.2.2.2.1 u13 ⟨by decide, Or.inl (by decide)⟩) hn (w5 := 150456320) n58_door (Or.inr (by decide)) (by omega)) (kV (fun M21 hI21 fr21 v20p => ?_))
      have hFm21 := hFm13.call fr21 rfl
      have tr22 := rg_63_9 hI21
      refine s_aload_n kx_204_62 rfl ?_
      refine r_getR (k := 63) (f := 16) (k2 := 66) kx_204_63 kp_204_60 (tk_63 hT) kf_12_16 (by decide) (rq_63_16 hI21) ?_
      refine s_iload_n kx_204_66 rfl ?_
      refine s_aload_n kx_204_67 rfl ?_
      refine s_iconst (v := 1) kx_204_68 (by decide) ?_
      refine s_bipush (v := 9) kx_204_69 (by decide) ?_
      refine s_callV2 (k := 63) (s1 := 3) (s2 := 2) (as := [(0, 9), (0, 1)]) (rest := [(0, ((8 * v1) + v2)), rf 66]) kx_204_71 kp_204_398 (Or.inl rfl) rfl (tk_63 hT) ki_188 kcl_188 rfl rfl (by decide) (f_188 (d := d) (low := 1) (high := 9) hT hI21 v20p.1 v20p.2.2.2.2 hn) (kW (fun v23 M24 hI24 fr24 v23p => ?_))
      have hFm24 := hFm21.call fr24 rfl
      have tr25 := rg_63_9 hI24
      have hk26 : M24 63 36 = v1 := ((fr24 63 36 rfl).trans ((fr21 63 36 rfl).trans ((u13.2 63 36 (by omega)).trans ((fr10 63 36 rfl).trans ((fr5 63 36 rfl).trans v1e)))))
      refine r_ast (k := 66) kx_204_74 (tk_66 hT) ⟨by omega, by omega⟩ hI24 ru_66 (fun M27 hI27 u27 => ?_)
      have hFm27 := hFm24.up u27 rfl
      have tr28 := (u27.2 63 3 (by omega))
      have tr29 := (u27.2 63 4 (by omega))
      have tr30 := (u27.2 63 5 (by omega))
      have tr31 := (u27.2 63 9 (by omega))
      have tr32 := (u27.2 63 10 (by omega))
      have hRS33 := RSD.upk (RSD.fr (RSD.fr hRS19 fr21 rfl) fr24 rfl) u27 (by omega) ⟨by omega, by omega⟩ (by omega)
      refine s_aload_n kx_204_75 rfl ?_
      refine s_ldc2_w kx_204_76 kp_204_293 ?_
      refine s_callV2 (k := 63) (s1 := 3) (s2 := 0) (as := [(1, 439905906546)]) (rest := []) kx_204_79 kp_204_394 (Or.inl rfl) rfl (tk_63 hT) ki_200 kcl_200 rfl rfl (by decide) (f_200 (d := d) (w := 439905906546) hT hI27 (LXp.up v23p.1 u27 (Or.inl (by decide))) (Yst.up v23p.2.2.2.2.1 u27 ⟨by decide, Or.inl (by decide)⟩) hn (w5 := 214416960) n58_floor (Or.inr (by decide)) (by omega)) (kV (fun M35 hI35 fr35 v34p => ?_))
      have hFm35 := hFm27.call fr35 rfl
      have tr36 := rg_63_9 hI35
      refine s_aload_n kx_204_82 rfl ?_
      refine r_getR (k := 63) (f := 17) (k2 := 67) kx_204_83 kp_204_63 (tk_63 hT) kf_12_17 (by decide) (rq_63_17 hI35) ?_
      refine s_iload_n kx_204_86 rfl ?_
      refine s_aload_n kx_204_87 rfl ?_
      refine s_iconst (v := 1) kx_204_88 (by decide) ?_
      refine s_bipush (v := 99) kx_204_89 (by decide) ?_
      refine s_callV2 (k := 63) (s1 := 3) (s2 := 2) (as := [(0, 99), (0, 1)]) (rest := [(0, ((8 * v1) + v2)), rf 67]) kx_204_91 kp_204_398 (Or.inl rfl) rfl (tk_63 hT) ki_188 kcl_188 rfl rfl (by decide) (f_188 (d := d) (low := 1) (high := 99) hT hI35 v34p.1 v34p.2.2.2.2 hn) (kW (fun v37 M38 hI38 fr38 v37p => ?_))
      have hFm38 := hFm35.call fr38 rfl
      have tr39 := rg_63_9 hI38
      have hk40 : M38 63 36 = v1 := ((fr38 63 36 rfl).trans ((fr35 63 36 rfl).trans ((u27.2 63 36 (by omega)).trans ((fr24 63 36 rfl).trans ((fr21 63 36 rfl).trans ((u13.2 63 36 (by omega)).trans ((fr10 63 36 rfl).trans ((fr5 63 36 rfl).trans v1e))))))))
      refine r_ast (k := 67) kx_204_94 (tk_67 hT) ⟨by omega, by omega⟩ hI38 ru_67 (fun M41 hI41 u41 => ?_)
      have hFm41 := hFm38.up u41 rfl
      have tr42 := (u41.2 63 3 (by omega))
      have tr43 := (u41.2 63 4 (by omega))
      have tr44 := (u41.2 63 5 (by omega))
      have tr45 := (u41.2 63 9 (by omega))
      have tr46 := (u41.2 63 10 (by omega))
      have hRS47 := RSD.upk (RSD.fr (RSD.fr hRS33 fr35 rfl) fr38 rfl) u41 (by omega) ⟨by omega, by omega⟩ (by omega)
      refine s_iconst (v := 0) kx_204_95 (by decide) ?_
      refine s_istore_n kx_204_96 km_204_2 rfl ?_
      have key50 : ∀ n51 : Nat, ∀ (x2_48 : Int), ∀ M49 : cM, Rng M49 → Fr gS_204_m M M49 → Fr gS_204_l97 M41 M49 → (0 ≤ x2_48) → (x2_48 ≤ 8) → (2147483647 - x2_48).toNat < n51 → cP k_P xs Ln (d + 3) 204 97 [(0, rf 63), (1, (0, ((8 * v1) + v2))), (2, (0, x2_48))] [] (T, M49) (qV T M gS_204_m (fun M1 => LXp M1 ∧ M 63 4 ≤ M1 63 4 ∧ M 63 9 ≤ M1 63 9 ∧ (PRd M M1) ∧ Yst M1 s n (owRoomF s n D q) (owRoomP s n q) ∧ (owRoomF s n D q = 0 → RSD M1 (owRoomD s n D q)))) := by
        intro n51
        induction n51 with
        | zero => intro x2_48 M49 hI49 hFm49 fl49 i52 i53 hm54; exact absurd hm54 (Nat.not_lt_zero _)
        | succ n51 ih55 =>
          intro x2_48 M49 hI49 hFm49 fl49 i52 i53 hm54
          have tr56 := fl49 63 4 rfl
          have tr57 := fl49 63 9 rfl
          have tr58 := rg_63_9 hI49
          refine s_iload_n kx_204_97 rfl ?_
          refine s_bipush (v := 8) kx_204_98 (by decide) ?_
          refine s_icmp_ge (t := 149) kx_204_100 (by decide) (fun hc59 => ?_) (fun hc59 => ?_)
          · refine s_aload_n kx_204_149 rfl ?_
            refine r_getI (k := 63) (f := 9) kx_204_150 kp_204_39 (tk_63 hT) kf_12_9 (fun _ => rfl) (rg_63_9 hI49) (fun v60 v60e v60a v60b => ?_)
            refine s_if_ne (t := 169) kx_204_153 (by decide) (fun hc61 => ?_) (fun hc61 => ?_)
            · have hk62 : M49 63 9 = v60 := v60e
              exact s_vret kx_204_169 kq_204 ⟨_, rfl, rfl, hI49, hFm49, ⟨(LXp.fr (LXp.up v37p.1 u41 (Or.inl (by decide))) fl49 rfl), by omega, by omega, by unfold PRd; omega, ⟨(by rw [← room_seq (s := s) (n := n) (D := D) ⟨hq0, hqn⟩ (by omega)]; exact (Yst.fr (Yst.up v37p.2.2.2.2.1 u41 ⟨by decide, Or.inl (by decide)⟩) fl49 rfl)), fun g => by rw [← room_seq (s := s) (n := n) (D := D) ⟨hq0, hqn⟩ (by omega)] at g; exact absurd g (Yst.pos (Yst.fr (Yst.up v37p.2.2.2.2.1 u41 ⟨by decide, Or.inl (by decide)⟩) fl49 rfl) (by omega)).1⟩⟩⟩
            · refine s_aload_n kx_204_156 rfl ?_
              refine r_getR (k := 63) (f := 15) (k2 := 65) kx_204_157 kp_204_57 (tk_63 hT) kf_12_15 (by decide) (rq_63_15 hI49) ?_
              refine s_aload_n kx_204_160 rfl ?_
              refine r_getK (k := 63) (f := 36) kx_204_161 kp_204_121 (tk_63 hT) kf_12_36 (fun _ => rfl) ((fl49 63 36 rfl).trans ((u41.2 63 36 (by omega)).trans ((fr38 63 36 rfl).trans ((fr35 63 36 rfl).trans ((u27.2 63 36 (by omega)).trans ((fr24 63 36 rfl).trans ((fr21 63 36 rfl).trans ((u13.2 63 36 (by omega)).trans ((fr10 63 36 rfl).trans ((fr5 63 36 rfl).trans v1e)))))))))) ?_
              refine s_dup2 kx_204_164 rfl rfl ?_
              refine r_aldK (k := 65) kx_204_165 (tk_65 hT) ⟨by omega, by omega⟩ ((fl49 65 _ rfl).trans ((u41.2 65 _ (by omega)).trans ((fr38 65 _ rfl).trans ((fr35 65 _ rfl).trans ((u27.2 65 _ (by omega)).trans ((fr24 65 _ rfl).trans ((fr21 65 _ rfl).trans ((u13.2 65 _ (by omega)).trans ((fr10 65 _ rfl).trans ((fr5 65 _ rfl).trans v2e)))))))))) ?_
              refine s_iconst (v := 1) kx_204_166 (by decide) ?_
              refine r_add kx_204_167 ⟨by omega, by omega⟩ ?_
              refine r_ast (k := 65) kx_204_168 (tk_65 hT) ⟨by omega, by omega⟩ hI49 (ru_65 (by omega) (by omega)) (fun M63 hI63 u63 => ?_)
              have hFm63 := hFm49.up u63 rfl
              have tr64 := (u63.2 63 3 (by omega))
              have tr65 := (u63.2 63 4 (by omega))
              have tr66 := (u63.2 63 5 (by omega))
              have tr67 := (u63.2 63 9 (by omega))
              have tr68 := (u63.2 63 10 (by omega))
              have hk69 : M63 63 9 = v60 := ((u63.2 63 9 (by omega)).trans v60e)
              exact s_vret kx_204_169 kq_204 ⟨_, rfl, rfl, hI63, hFm63, ⟨(LXp.up (LXp.fr (LXp.up v37p.1 u41 (Or.inl (by decide))) fl49 rfl) u63 (Or.inl (by decide))), by omega, by omega, by unfold PRd; omega, ⟨(by rw [← room_seq (s := s) (n := n) (D := D) ⟨hq0, hqn⟩ (by omega)]; exact (Yst.up (Yst.fr (Yst.up v37p.2.2.2.2.1 u41 ⟨by decide, Or.inl (by decide)⟩) fl49 rfl) u63 ⟨by decide, Or.inl (by decide)⟩)), fun _ => RSD.addR (RSD.fr hRS47 fl49 rfl) ((fl49 63 36 rfl).trans ((u41.2 63 36 (by omega)).trans ((fr38 63 36 rfl).trans ((fr35 63 36 rfl).trans ((u27.2 63 36 (by omega)).trans ((fr24 63 36 rfl).trans ((fr21 63 36 rfl).trans ((u13.2 63 36 (by omega)).trans ((fr10 63 36 rfl).trans ((fr5 63 36 rfl).trans v1e)))))))))) (by omega) (by omega) (by rw [(show (8 * v1 + D 0 0).toNat = (((8 * v1) + v2)).toNat by congr 1; omega), ((fl49 83 _ rfl).trans ((u41.2 83 _ (by omega)).trans ((fr38 83 _ rfl).trans ((fr35 83 _ rfl).trans ((u27.2 83 _ (by omega)).trans ((fr24 83 _ rfl).trans ((fr21 83 _ rfl).trans u13.1)))))))]; exact v9p.2.2.2.2.2 (yMu_f (yNu_f (yMu_f (yNu_f (Yst.zero (Yst.fr (Yst.up v37p.2.2.2.2.1 u41 ⟨by decide, Or.inl (by decide)⟩) fl49 rfl) (by omega)).1))))) (by rw [(show (8 * v1 + D 0 0).toNat = (((8 * v1) + v2)).toNat by congr 1; omega), ((fl49 66 _ rfl).trans ((u41.2 66 _ (by omega)).trans ((fr38 66 _ rfl).trans ((fr35 66 _ rfl).trans u27.1))))]; exact v23p.2.2.2.2.2 (yMu_f (yNu_f (Yst.zero (Yst.fr (Yst.up v37p.2.2.2.2.1 u41 ⟨by decide, Or.inl (by decide)⟩) fl49 rfl) (by omega)).1))) (by rw [(show (8 * v1 + D 0 0).toNat = (((8 * v1) + v2)).toNat by congr 1; omega), ((fl49 67 _ rfl).trans u41.1)]; exact v37p.2.2.2.2.2 (Yst.zero (Yst.fr (Yst.up v37p.2.2.2.2.1 u41 ⟨by decide, Or.inl (by decide)⟩) fl49 rfl) (by omega)).1) (by rw [show D 0 0 + 1 = (v2 + 1) by omega]; exact u63)⟩⟩⟩
          · refine s_aload_n kx_204_103 rfl ?_
            refine r_getR (k := 63) (f := 18) (k2 := 68) kx_204_104 kp_204_66 (tk_63 hT) kf_12_18 (by decide) (rq_63_18 hI49) ?_
            refine s_bipush (v := 8) kx_204_107 (by decide) ?_
            refine s_iload_n kx_204_109 rfl ?_
            refine r_mul kx_204_110 ⟨by omega, by omega⟩ ?_
            refine s_iload_n kx_204_111 rfl ?_
            refine r_add kx_204_112 ⟨by omega, by omega⟩ ?_
            refine s_iconst (v := 0) kx_204_113 (by decide) ?_
            refine r_ast (k := 68) kx_204_114 (tk_68 hT) ⟨by omega, by omega⟩ hI49 (ru_68 (by omega) (by omega)) (fun M70 hI70 u70 => ?_)
            have hFm70 := hFm49.up u70 rfl
            have hFl9770 := fl49.up u70 rfl
            have tr71 := (u70.2 63 3 (by omega))
            have tr72 := (u70.2 63 4 (by omega))
            have tr73 := (u70.2 63 5 (by omega))
            have tr74 := (u70.2 63 9 (by omega))
            have tr75 := (u70.2 63 10 (by omega))
            refine s_aload_n kx_204_115 rfl ?_
            refine r_getR (k := 63) (f := 18) (k2 := 68) kx_204_116 kp_204_66 (tk_63 hT) kf_12_18 (by decide) (rq_63_18 hI70) ?_
            refine s_bipush (v := 8) kx_204_119 (by decide) ?_
            refine s_bipush (v := 8) kx_204_121 (by decide) ?_
            refine s_aload_n kx_204_123 rfl ?_
            refine r_getK (k := 63) (f := 36) kx_204_124 kp_204_121 (tk_63 hT) kf_12_36 (fun _ => rfl) ((u70.2 63 36 (by omega)).trans ((fl49 63 36 rfl).trans ((u41.2 63 36 (by omega)).trans ((fr38 63 36 rfl).trans ((fr35 63 36 rfl).trans ((u27.2 63 36 (by omega)).trans ((fr24 63 36 rfl).trans ((fr21 63 36 rfl).trans ((u13.2 63 36 (by omega)).trans ((fr10 63 36 rfl).trans ((fr5 63 36 rfl).trans v1e))))))))))) ?_
            refine r_mul kx_204_127 ⟨by omega, by omega⟩ ?_
            refine s_iload_n kx_204_128 rfl ?_
            refine r_add kx_204_129 ⟨by omega, by omega⟩ ?_
            refine r_mul kx_204_130 ⟨by omega, by omega⟩ ?_
            refine s_aload_n kx_204_131 rfl ?_
            refine r_getR (k := 63) (f := 15) (k2 := 65) kx_204_132 kp_204_57 (tk_63 hT) kf_12_15 (by decide) (rq_63_15 hI70) ?_
            refine s_aload_n kx_204_135 rfl ?_
            refine r_getK (k := 63) (f := 36) kx_204_136 kp_204_121 (tk_63 hT) kf_12_36 (fun _ => rfl) ((u70.2 63 36 (by omega)).trans ((fl49 63 36 rfl).trans ((u41.2 63 36 (by omega)).trans ((fr38 63 36 rfl).trans ((fr35 63 36 rfl).trans ((u27.2 63 36 (by omega)).trans ((fr24 63 36 rfl).trans ((fr21 63 36 rfl).trans ((u13.2 63 36 (by omega)).trans ((fr10 63 36 rfl).trans ((fr5 63 36 rfl).trans v1e))))))))))) ?_
            refine r_aldK (k := 65) kx_204_139 (tk_65 hT) ⟨by omega, by omega⟩ ((u70.2 65 _ (by omega)).trans ((fl49 65 _ rfl).trans ((u41.2 65 _ (by omega)).trans ((fr38 65 _ rfl).trans ((fr35 65 _ rfl).trans ((u27.2 65 _ (by omega)).trans ((fr24 65 _ rfl).trans ((fr21 65 _ rfl).trans ((u13.2 65 _ (by omega)).trans ((fr10 65 _ rfl).trans ((fr5 65 _ rfl).trans v2e))))))))))) ?_
            refine r_add kx_204_140 ⟨by omega, by omega⟩ ?_
            refine s_iconst (v := 0) kx_204_141 (by decide) ?_
            refine r_ast (k := 68) kx_204_142 (tk_68 hT) ⟨by omega, by omega⟩ hI70 (ru_68 (by omega) (by omega)) (fun M76 hI76 u76 => ?_)
            have hFm76 := hFm70.up u76 rfl
            have hFl9776 := hFl9770.up u76 rfl
            have tr77 := (u76.2 63 3 (by omega))
            have tr78 := (u76.2 63 4 (by omega))
            have tr79 := (u76.2 63 5 (by omega))
            have tr80 := (u76.2 63 9 (by omega))
            have tr81 := (u76.2 63 10 (by omega))
            refine r_iinc kx_204_143 rfl km_204_2 (by decide) ⟨by omega, by omega⟩ rfl ?_
            refine s_goto (t := 97) kx_204_146 (by decide) ?_
            exact cP.wk (lS1 rfl (lS1 rfl (lS1 rfl lS0))) (ih55 (x2_48 + 1) M76 hI76 hFm76 hFl9776 (by omega) (by omega) (by omega))
      exact cP.wk (lS1 rfl (lS1 rfl (lS1 rfl lS0))) (key50 _ 0 M41 hI41 hFm41 Fr.refl (by omega) (by omega) (Nat.lt_succ_self _))
    · have hc82 := v4p.2.2.2.resolve_left (by omega)
      have hc82a := hc82.2.1
      exact s_vret kx_204_26 kq_204 ⟨_, rfl, rfl, hI5, hFm5, ⟨v4p.1, by omega, by omega, by unfold PRd; omega, ⟨(Or.inl (by rw [show owRoomF s n D q = 60000 + owB s n q by unfold owRoomF; (repeat' split) <;> omega]; exact hc82.2.2.1)), fun g => by exfalso; rw [show owRoomF s n D q = 60000 + owB s n q by unfold owRoomF; (repeat' split) <;> omega] at g; exact hc82.2.2.1.1 g⟩⟩⟩
  · refine s_iconst (v := 1) kx_204_15 (by decide) ?_
    refine s_goto (t := 20) kx_204_16 (by decide) ?_
    refine s_callV2 (k := 63) (s1 := 2) (s2 := 0) (as := [(0, 1)]) (rest := []) kx_204_20 kp_204_386 (Or.inl rfl) rfl (tk_63 hT) ki_199 kcl_199 rfl rfl (by decide) (f_199 (d := d) (full := 1) hT hI hX hY hn (by omega)) (kW (fun v83 M84 hI84 fr84 v83p => ?_))
    have hFm84 := hFm.call fr84 rfl
    have tr85 := rg_63_9 hI84
    refine s_if_ne (t := 27) kx_204_23 (by decide) (fun hc86 => ?_) (fun hc86 => ?_)
    · have hc87 := v83p.2.2.2.resolve_right (by omega)
      have hc87a := hc87.2.1
      refine s_bipush (v := 8) kx_204_27 (by decide) ?_
      refine s_aload_n kx_204_29 rfl ?_
      refine r_getK (k := 63) (f := 36) kx_204_30 kp_204_121 (tk_63 hT) kf_12_36 (fun _ => rfl) ((fr84 63 36 rfl).trans v1e) ?_
      refine r_mul kx_204_33 ⟨by omega, by omega⟩ ?_
      refine s_aload_n kx_204_34 rfl ?_
      refine r_getR (k := 63) (f := 15) (k2 := 65) kx_204_35 kp_204_57 (tk_63 hT) kf_12_15 (by decide) (rq_63_15 hI84) ?_
      refine s_aload_n kx_204_38 rfl ?_
      refine r_getK (k := 63) (f := 36) kx_204_39 kp_204_121 (tk_63 hT) kf_12_36 (fun _ => rfl) ((fr84 63 36 rfl).trans v1e) ?_
      refine r_aldK (k := 65) kx_204_42 (tk_65 hT) ⟨by omega, by omega⟩ ((fr84 65 _ rfl).trans v2e) ?_
      refine r_add kx_204_43 ⟨by omega, by omega⟩ ?_
      refine s_istore_n kx_204_44 km_204_1 rfl ?_
      refine s_aload_n kx_204_45 rfl ?_
      refine r_getR (k := 63) (f := 33) (k2 := 83) kx_204_46 kp_204_111 (tk_63 hT) kf_12_33 (by decide) (rq_63_33 hI84) ?_
      refine s_iload_n kx_204_49 rfl ?_
      refine s_aload_n kx_204_50 rfl ?_
      refine s_callV2 (k := 63) (s1 := 1) (s2 := 2) (as := []) (rest := [(0, ((8 * v1) + v2)), rf 83]) kx_204_51 kp_204_390 (Or.inl rfl) rfl (tk_63 hT) ki_201 kcl_201 rfl rfl (by decide) (f_201 (d := d) hT hI84 v83p.1 (show Yst M84 s n 0 (owE s n q) from Or.inr ⟨rfl, hc87.2.1.2.2, hc87.2.2⟩) hn (RSD.fr hR fr84 rfl)) (kW (fun v88 M89 hI89 fr89 v88p => ?_))
      have hFm89 := hFm84.call fr89 rfl
      have tr90 := rg_63_9 hI89
      have hk91 : M89 63 36 = v1 := ((fr89 63 36 rfl).trans ((fr84 63 36 rfl).trans v1e))
      refine r_last (k := 83) kx_204_54 (tk_83 hT) ⟨by omega, by omega⟩ hI89 ru_83 (fun M92 hI92 u92 => ?_)
      have hFm92 := hFm89.up u92 rfl
      have tr93 := (u92.2 63 3 (by omega))
      have tr94 := (u92.2 63 4 (by omega))
      have tr95 := (u92.2 63 5 (by omega))
      have tr96 := (u92.2 63 9 (by omega))
      have tr97 := (u92.2 63 10 (by omega))
      have hRS98 := RSD.upk (RSD.fr (RSD.fr hR fr84 rfl) fr89 rfl) u92 (by omega) ⟨by omega, by omega⟩ (by omega)
      refine s_aload_n kx_204_55 rfl ?_
      refine s_ldc2_w kx_204_56 kp_204_291 ?_
      refine s_callV2 (k := 63) (s1 := 3) (s2 := 0) (as := [(1, 1685024626)]) (rest := []) kx_204_59 kp_204_394 (Or.inl rfl) rfl (tk_63 hT) ki_200 kcl_200 rfl rfl (by decide) (f_200 (d := d) (w := 1685024626) hT hI92 (LXp.up v88p.1 u92 (Or.inl (by decide))) (Yst.up v88p.2.2.2.2.1 u92 ⟨by decide, Or.inl (by decide)⟩) hn (w5 := 150456320) n58_door (Or.inr (by decide)) (by omega)) (kV (fun M100 hI100 fr100 v99p => ?_))
      have hFm100 := hFm92.call fr100 rfl
      have tr101 := rg_63_9 hI100
      refine s_aload_n kx_204_62 rfl ?_
      refine r_getR (k := 63) (f := 16) (k2 := 66) kx_204_63 kp_204_60 (tk_63 hT) kf_12_16 (by decide) (rq_63_16 hI100) ?_
      refine s_iload_n kx_204_66 rfl ?_
      refine s_aload_n kx_204_67 rfl ?_
      refine s_iconst (v := 1) kx_204_68 (by decide) ?_
      refine s_bipush (v := 9) kx_204_69 (by decide) ?_
      refine s_callV2 (k := 63) (s1 := 3) (s2 := 2) (as := [(0, 9), (0, 1)]) (rest := [(0, ((8 * v1) + v2)), rf 66]) kx_204_71 kp_204_398 (Or.inl rfl) rfl (tk_63 hT) ki_188 kcl_188 rfl rfl (by decide) (f_188 (d := d) (low := 1) (high := 9) hT hI100 v99p.1 v99p.2.2.2.2 hn) (kW (fun v102 M103 hI103 fr103 v102p => ?_))
      have hFm103 := hFm100.call fr103 rfl
      have tr104 := rg_63_9 hI103
      have hk105 : M103 63 36 = v1 := ((fr103 63 36 rfl).trans ((fr100 63 36 rfl).trans ((u92.2 63 36 (by omega)).trans ((fr89 63 36 rfl).trans ((fr84 63 36 rfl).trans v1e)))))
      refine r_ast (k := 66) kx_204_74 (tk_66 hT) ⟨by omega, by omega⟩ hI103 ru_66 (fun M106 hI106 u106 => ?_)
      have hFm106 := hFm103.up u106 rfl
      have tr107 := (u106.2 63 3 (by omega))
      have tr108 := (u106.2 63 4 (by omega))
      have tr109 := (u106.2 63 5 (by omega))
      have tr110 := (u106.2 63 9 (by omega))
      have tr111 := (u106.2 63 10 (by omega))
      have hRS112 := RSD.upk (RSD.fr (RSD.fr hRS98 fr100 rfl) fr103 rfl) u106 (by omega) ⟨by omega, by omega⟩ (by omega)
      refine s_aload_n kx_204_75 rfl ?_
      refine s_ldc2_w kx_204_76 kp_204_293 ?_
      refine s_callV2 (k := 63) (s1 := 3) (s2 := 0) (as := [(1, 439905906546)]) (rest := []) kx_204_79 kp_204_394 (Or.inl rfl) rfl (tk_63 hT) ki_200 kcl_200 rfl rfl (by decide) (f_200 (d := d) (w := 439905906546) hT hI106 (LXp.up v102p.1 u106 (Or.inl (by decide))) (Yst.up v102p.2.2.2.2.1 u106 ⟨by decide, Or.inl (by decide)⟩) hn (w5 := 214416960) n58_floor (Or.inr (by decide)) (by omega)) (kV (fun M114 hI114 fr114 v113p => ?_))
      have hFm114 := hFm106.call fr114 rfl
      have tr115 := rg_63_9 hI114
      refine s_aload_n kx_204_82 rfl ?_
      refine r_getR (k := 63) (f := 17) (k2 := 67) kx_204_83 kp_204_63 (tk_63 hT) kf_12_17 (by decide) (rq_63_17 hI114) ?_
      refine s_iload_n kx_204_86 rfl ?_
      refine s_aload_n kx_204_87 rfl ?_
      refine s_iconst (v := 1) kx_204_88 (by decide) ?_
      refine s_bipush (v := 99) kx_204_89 (by decide) ?_
      refine s_callV2 (k := 63) (s1 := 3) (s2 := 2) (as := [(0, 99), (0, 1)]) (rest := [(0, ((8 * v1) + v2)), rf 67]) kx_204_91 kp_204_398 (Or.inl rfl) rfl (tk_63 hT) ki_188 kcl_188 rfl rfl (by decide) (f_188 (d := d) (low := 1) (high := 99) hT hI114 v113p.1 v113p.2.2.2.2 hn) (kW (fun v116 M117 hI117 fr117 v116p => ?_))
      have hFm117 := hFm114.call fr117 rfl
      have tr118 := rg_63_9 hI117
      have hk119 : M117 63 36 = v1 := ((fr117 63 36 rfl).trans ((fr114 63 36 rfl).trans ((u106.2 63 36 (by omega)).trans ((fr103 63 36 rfl).trans ((fr100 63 36 rfl).trans ((u92.2 63 36 (by omega)).trans ((fr89 63 36 rfl).trans ((fr84 63 36 rfl).trans v1e))))))))
      refine r_ast (k := 67) kx_204_94 (tk_67 hT) ⟨by omega, by omega⟩ hI117 ru_67 (fun M120 hI120 u120 => ?_)
      have hFm120 := hFm117.up u120 rfl
      have tr121 := (u120.2 63 3 (by omega))
      have tr122 := (u120.2 63 4 (by omega))
      have tr123 := (u120.2 63 5 (by omega))
      have tr124 := (u120.2 63 9 (by omega))
      have tr125 := (u120.2 63 10 (by omega))
      have hRS126 := RSD.upk (RSD.fr (RSD.fr hRS112 fr114 rfl) fr117 rfl) u120 (by omega) ⟨by omega, by omega⟩ (by omega)
      refine s_iconst (v := 0) kx_204_95 (by decide) ?_
      refine s_istore_n kx_204_96 km_204_2 rfl ?_
      have key129 : ∀ n130 : Nat, ∀ (x2_127 : Int), ∀ M128 : cM, Rng M128 → Fr gS_204_m M M128 → Fr gS_204_l97 M120 M128 → (0 ≤ x2_127) → (x2_127 ≤ 8) → (2147483647 - x2_127).toNat < n130 → cP k_P xs Ln (d + 3) 204 97 [(0, rf 63), (1, (0, ((8 * v1) + v2))), (2, (0, x2_127))] [] (T, M128) (qV T M gS_204_m (fun M1 => LXp M1 ∧ M 63 4 ≤ M1 63 4 ∧ M 63 9 ≤ M1 63 9 ∧ (PRd M M1) ∧ Yst M1 s n (owRoomF s n D q) (owRoomP s n q) ∧ (owRoomF s n D q = 0 → RSD M1 (owRoomD s n D q)))) := by
        intro n130
        induction n130 with
        | zero => intro x2_127 M128 hI128 hFm128 fl128 i131 i132 hm133; exact absurd hm133 (Nat.not_lt_zero _)
        | succ n130 ih134 =>
          intro x2_127 M128 hI128 hFm128 fl128 i131 i132 hm133
          have tr135 := fl128 63 4 rfl
          have tr136 := fl128 63 9 rfl
          have tr137 := rg_63_9 hI128
          refine s_iload_n kx_204_97 rfl ?_
          refine s_bipush (v := 8) kx_204_98 (by decide) ?_
          refine s_icmp_ge (t := 149) kx_204_100 (by decide) (fun hc138 => ?_) (fun hc138 => ?_)
          · refine s_aload_n kx_204_149 rfl ?_
            refine r_getI (k := 63) (f := 9) kx_204_150 kp_204_39 (tk_63 hT) kf_12_9 (fun _ => rfl) (rg_63_9 hI128) (fun v139 v139e v139a v139b => ?_)
            refine s_if_ne (t := 169) kx_204_153 (by decide) (fun hc140 => ?_) (fun hc140 => ?_)
            · have hk141 : M128 63 9 = v139 := v139e
              exact s_vret kx_204_169 kq_204 ⟨_, rfl, rfl, hI128, hFm128, ⟨(LXp.fr (LXp.up v116p.1 u120 (Or.inl (by decide))) fl128 rfl), by omega, by omega, by unfold PRd; omega, ⟨(by rw [← room_seq (s := s) (n := n) (D := D) ⟨hq0, hqn⟩ (by omega)]; exact (Yst.fr (Yst.up v116p.2.2.2.2.1 u120 ⟨by decide, Or.inl (by decide)⟩) fl128 rfl)), fun g => by rw [← room_seq (s := s) (n := n) (D := D) ⟨hq0, hqn⟩ (by omega)] at g; exact absurd g (Yst.pos (Yst.fr (Yst.up v116p.2.2.2.2.1 u120 ⟨by decide, Or.inl (by decide)⟩) fl128 rfl) (by omega)).1⟩⟩⟩
            · refine s_aload_n kx_204_156 rfl ?_
              refine r_getR (k := 63) (f := 15) (k2 := 65) kx_204_157 kp_204_57 (tk_63 hT) kf_12_15 (by decide) (rq_63_15 hI128) ?_
              refine s_aload_n kx_204_160 rfl ?_
              refine r_getK (k := 63) (f := 36) kx_204_161 kp_204_121 (tk_63 hT) kf_12_36 (fun _ => rfl) ((fl128 63 36 rfl).trans ((u120.2 63 36 (by omega)).trans ((fr117 63 36 rfl).trans ((fr114 63 36 rfl).trans ((u106.2 63 36 (by omega)).trans ((fr103 63 36 rfl).trans ((fr100 63 36 rfl).trans ((u92.2 63 36 (by omega)).trans ((fr89 63 36 rfl).trans ((fr84 63 36 rfl).trans v1e)))))))))) ?_
              refine s_dup2 kx_204_164 rfl rfl ?_
              refine r_aldK (k := 65) kx_204_165 (tk_65 hT) ⟨by omega, by omega⟩ ((fl128 65 _ rfl).trans ((u120.2 65 _ (by omega)).trans ((fr117 65 _ rfl).trans ((fr114 65 _ rfl).trans ((u106.2 65 _ (by omega)).trans ((fr103 65 _ rfl).trans ((fr100 65 _ rfl).trans ((u92.2 65 _ (by omega)).trans ((fr89 65 _ rfl).trans ((fr84 65 _ rfl).trans v2e)))))))))) ?_
              refine s_iconst (v := 1) kx_204_166 (by decide) ?_
              refine r_add kx_204_167 ⟨by omega, by omega⟩ ?_
              refine r_ast (k := 65) kx_204_168 (tk_65 hT) ⟨by omega, by omega⟩ hI128 (ru_65 (by omega) (by omega)) (fun M142 hI142 u142 => ?_)
              have hFm142 := hFm128.up u142 rfl
              have tr143 := (u142.2 63 3 (by omega))
              have tr144 := (u142.2 63 4 (by omega))
              have tr145 := (u142.2 63 5 (by omega))
              have tr146 := (u142.2 63 9 (by omega))
              have tr147 := (u142.2 63 10 (by omega))
              have hk148 : M142 63 9 = v139 := ((u142.2 63 9 (by omega)).trans v139e)
              exact s_vret kx_204_169 kq_204 ⟨_, rfl, rfl, hI142, hFm142, ⟨(LXp.up (LXp.fr (LXp.up v116p.1 u120 (Or.inl (by decide))) fl128 rfl) u142 (Or.inl (by decide))), by omega, by omega, by unfold PRd; omega, ⟨(by rw [← room_seq (s := s) (n := n) (D := D) ⟨hq0, hqn⟩ (by omega)]; exact (Yst.up (Yst.fr (Yst.up v116p.2.2.2.2.1 u120 ⟨by decide, Or.inl (by decide)⟩) fl128 rfl) u142 ⟨by decide, Or.inl (by decide)⟩)), fun _ => RSD.addR (RSD.fr hRS126 fl128 rfl) ((fl128 63 36 rfl).trans ((u120.2 63 36 (by omega)).trans ((fr117 63 36 rfl).trans ((fr114 63 36 rfl).trans ((u106.2 63 36 (by omega)).trans ((fr103 63 36 rfl).trans ((fr100 63 36 rfl).trans ((u92.2 63 36 (by omega)).trans ((fr89 63 36 rfl).trans ((fr84 63 36 rfl).trans v1e)))))))))) (by omega) (by omega) (by rw [(show (8 * v1 + D 0 0).toNat = (((8 * v1) + v2)).toNat by congr 1; omega), ((fl128 83 _ rfl).trans ((u120.2 83 _ (by omega)).trans ((fr117 83 _ rfl).trans ((fr114 83 _ rfl).trans ((u106.2 83 _ (by omega)).trans ((fr103 83 _ rfl).trans ((fr100 83 _ rfl).trans u92.1)))))))]; exact v88p.2.2.2.2.2 (yMu_f (yNu_f (yMu_f (yNu_f (Yst.zero (Yst.fr (Yst.up v116p.2.2.2.2.1 u120 ⟨by decide, Or.inl (by decide)⟩) fl128 rfl) (by omega)).1))))) (by rw [(show (8 * v1 + D 0 0).toNat = (((8 * v1) + v2)).toNat by congr 1; omega), ((fl128 66 _ rfl).trans ((u120.2 66 _ (by omega)).trans ((fr117 66 _ rfl).trans ((fr114 66 _ rfl).trans u106.1))))]; exact v102p.2.2.2.2.2 (yMu_f (yNu_f (Yst.zero (Yst.fr (Yst.up v116p.2.2.2.2.1 u120 ⟨by decide, Or.inl (by decide)⟩) fl128 rfl) (by omega)).1))) (by rw [(show (8 * v1 + D 0 0).toNat = (((8 * v1) + v2)).toNat by congr 1; omega), ((fl128 67 _ rfl).trans u120.1)]; exact v116p.2.2.2.2.2 (Yst.zero (Yst.fr (Yst.up v116p.2.2.2.2.1 u120 ⟨by decide, Or.inl (by decide)⟩) fl128 rfl) (by omega)).1) (by rw [show D 0 0 + 1 = (v2 + 1) by omega]; exact u142)⟩⟩⟩
          · refine s_aload_n kx_204_103 rfl ?_
            refine r_getR (k := 63) (f := 18) (k2 := 68) kx_204_104 kp_204_66 (tk_63 hT) kf_12_18 (by decide) (rq_63_18 hI128) ?_
            refine s_bipush (v := 8) kx_204_107 (by decide) ?_
            refine s_iload_n kx_204_109 rfl ?_
            refine r_mul kx_204_110 ⟨by omega, by omega⟩ ?_
            refine s_iload_n kx_204_111 rfl ?_
            refine r_add kx_204_112 ⟨by omega, by omega⟩ ?_
            refine s_iconst (v := 0) kx_204_113 (by decide) ?_
            refine r_ast (k := 68) kx_204_114 (tk_68 hT) ⟨by omega, by omega⟩ hI128 (ru_68 (by omega) (by omega)) (fun M149 hI149 u149 => ?_)
            have hFm149 := hFm128.up u149 rfl
            have hFl97149 := fl128.up u149 rfl
            have tr150 := (u149.2 63 3 (by omega))
            have tr151 := (u149.2 63 4 (by omega))
            have tr152 := (u149.2 63 5 (by omega))
            have tr153 := (u149.2 63 9 (by omega))
            have tr154 := (u149.2 63 10 (by omega))
            refine s_aload_n kx_204_115 rfl ?_
            refine r_getR (k := 63) (f := 18) (k2 := 68) kx_204_116 kp_204_66 (tk_63 hT) kf_12_18 (by decide) (rq_63_18 hI149) ?_
            refine s_bipush (v := 8) kx_204_119 (by decide) ?_
            refine s_bipush (v := 8) kx_204_121 (by decide) ?_
            refine s_aload_n kx_204_123 rfl ?_
            refine r_getK (k := 63) (f := 36) kx_204_124 kp_204_121 (tk_63 hT) kf_12_36 (fun _ => rfl) ((u149.2 63 36 (by omega)).trans ((fl128 63 36 rfl).trans ((u120.2 63 36 (by omega)).trans ((fr117 63 36 rfl).trans ((fr114 63 36 rfl).trans ((u106.2 63 36 (by omega)).trans ((fr103 63 36 rfl).trans ((fr100 63 36 rfl).trans ((u92.2 63 36 (by omega)).trans ((fr89 63 36 rfl).trans ((fr84 63 36 rfl).trans v1e))))))))))) ?_
            refine r_mul kx_204_127 ⟨by omega, by omega⟩ ?_
            refine s_iload_n kx_204_128 rfl ?_
            refine r_add kx_204_129 ⟨by omega, by omega⟩ ?_
            refine r_mul kx_204_130 ⟨by omega, by omega⟩ ?_
            refine s_aload_n kx_204_131 rfl ?_
            refine r_getR (k := 63) (f := 15) (k2 := 65) kx_204_132 kp_204_57 (tk_63 hT) kf_12_15 (by decide) (rq_63_15 hI149) ?_
            refine s_aload_n kx_204_135 rfl ?_
            refine r_getK (k := 63) (f := 36) kx_204_136 kp_204_121 (tk_63 hT) kf_12_36 (fun _ => rfl) ((u149.2 63 36 (by omega)).trans ((fl128 63 36 rfl).trans ((u120.2 63 36 (by omega)).trans ((fr117 63 36 rfl).trans ((fr114 63 36 rfl).trans ((u106.2 63 36 (by omega)).trans ((fr103 63 36 rfl).trans ((fr100 63 36 rfl).trans ((u92.2 63 36 (by omega)).trans ((fr89 63 36 rfl).trans ((fr84 63 36 rfl).trans v1e))))))))))) ?_
            refine r_aldK (k := 65) kx_204_139 (tk_65 hT) ⟨by omega, by omega⟩ ((u149.2 65 _ (by omega)).trans ((fl128 65 _ rfl).trans ((u120.2 65 _ (by omega)).trans ((fr117 65 _ rfl).trans ((fr114 65 _ rfl).trans ((u106.2 65 _ (by omega)).trans ((fr103 65 _ rfl).trans ((fr100 65 _ rfl).trans ((u92.2 65 _ (by omega)).trans ((fr89 65 _ rfl).trans ((fr84 65 _ rfl).trans v2e))))))))))) ?_
            refine r_add kx_204_140 ⟨by omega, by omega⟩ ?_
            refine s_iconst (v := 0) kx_204_141 (by decide) ?_
            refine r_ast (k := 68) kx_204_142 (tk_68 hT) ⟨by omega, by omega⟩ hI149 (ru_68 (by omega) (by omega)) (fun M155 hI155 u155 => ?_)
            have hFm155 := hFm149.up u155 rfl
            have hFl97155 := hFl97149.up u155 rfl
            have tr156 := (u155.2 63 3 (by omega))
            have tr157 := (u155.2 63 4 (by omega))
            have tr158 := (u155.2 63 5 (by omega))
            have tr159 := (u155.2 63 9 (by omega))
            have tr160 := (u155.2 63 10 (by omega))
            refine r_iinc kx_204_143 rfl km_204_2 (by decide) ⟨by omega, by omega⟩ rfl ?_
            refine s_goto (t := 97) kx_204_146 (by decide) ?_
            exact cP.wk (lS1 rfl (lS1 rfl (lS1 rfl lS0))) (ih134 (x2_127 + 1) M155 hI155 hFm155 hFl97155 (by omega) (by omega) (by omega))
      exact cP.wk (lS1 rfl (lS1 rfl (lS1 rfl lS0))) (key129 _ 0 M120 hI120 hFm120 Fr.refl (by omega) (by omega) (Nat.lt_succ_self _))
    · have hc161 := v83p.2.2.2.resolve_left (by omega)
      have hc161a := hc161.2.1
      exact s_vret kx_204_26 kq_204 ⟨_, rfl, rfl, hI84, hFm84, ⟨v83p.1, by omega, by omega, by unfold PRd; omega, ⟨(Or.inl (by rw [show owRoomF s n D q = 60000 + owB s n q by unfold owRoomF; (repeat' split) <;> omega]; exact hc161.2.2.1)), fun g => by exfalso; rw [show owRoomF s n D q = 60000 + owB s n q by unfold owRoomF; (repeat' split) <;> omega] at g; exact hc161.2.2.1.1 g⟩⟩⟩
