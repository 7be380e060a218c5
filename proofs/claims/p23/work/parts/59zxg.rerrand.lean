def gR_277_l106 : List (Nat × Nat) := [(106, 99999)]
def gR_277_l40 : List (Nat × Nat) := [(102, 99999), (63, 62), (63, 63), (63, 64)]
def gR_277_m : List (Nat × Nat) := [(102, 99999), (106, 99999), (63, 1), (63, 62), (63, 63), (63, 64), (63, 68), (91, 99999)]
theorem g_277 {xs : Nat → Int} {Ln d : Nat} {T : List cK} {M : cM} (hT : TT T) (hI : Rng M) {p : Int} {D S : cM} (hR : RR D S M) {s : Nat → Int} (hs : M 64 = s) : cC k_P xs Ln (d + 5) 277 [rf 63, (0, p)] (T, M) (qW T M gR_277_m 0 (fun v M1 => ((v = -1 ∧ pEt D S s p (M 63 1) = 0 ∧ M1 63 68 = M 63 68 ∧ ∀ k, M1 106 k = M 106 k) ∨ (pEt D S s p (M 63 1) = 1 ∧ v = pVb D S s p (M 63 1 / 2).toNat 0 (S 1 p.toNat) ∧ M1 63 68 = (if v = -1 then 0 else M 63 1 / 2) ∧ (v ≠ -1 → ∀ k : Nat, (k : Int) < M 63 1 / 2 → M1 106 k = pTn D S s p (M 63 1 / 2).toNat k))) ∧ M1 63 1 = 0)) := by
  show cP k_P xs Ln (d + 5) 277 0 [(0, rf 63), (1, (0, p))] [] (T, M) _
  have hFm : Fr gR_277_m M M := Fr.refl
  have hD := hR.2.1
  have hDr := hD.rg
  have hSW := hR.2.2.2.2.1
  refine s_aload_n kx_277_0 rfl ?_
  refine r_getI (k := 63) (f := 1) kx_277_1 kp_277_13 (tk_63 hT) kf_12_1 (fun _ => rfl) (rg_63_1 hI) (fun v1 v1e v1a v1b => ?_)
  refine s_istore_n kx_277_4 km_277_2 rfl ?_
  refine s_aload_n kx_277_5 rfl ?_
  refine s_iconst (v := 0) kx_277_6 (by decide) ?_
  refine r_put (k := 63) (f := 1) kx_277_7 kp_277_13 (tk_63 hT) kf_12_1 rfl (by decide) (by decide) hI (ru_63_1 (by omega) (by omega)) (fun M2 hI2 u2 => ?_)
  have hFm2 := hFm.up u2 rfl
  have hc3 := (RR.up hR u2 (by omega))
  refine s_aload_n kx_277_10 rfl ?_
  refine s_iload_n kx_277_11 rfl ?_
  refine s_iload_n kx_277_12 rfl ?_
  refine s_callV2 (k := 63) (s1 := 3) (s2 := 0) (as := [(0, v1), (0, p)]) (rest := []) kx_277_13 kp_277_588 (Or.inl rfl) rfl (tk_63 hT) ki_276 kcl_276 rfl rfl (by decide) (g_276 (d := d + 3) (p := p) (n := v1) hT hI2 hc3 ((funext fun i => (u2.2 64 _ (by omega))).trans hs) (by omega)) (kF (fun v4 v4p => ?_))
  refine s_if_ne (t := 25) kx_277_16 (by decide) (fun hc5 => ?_) (fun hc5 => ?_)
  · replace v4p := v4p.resolve_right (by omega)
    have hE : pEt D S s p v1 = 1 := by omega
    have hE1 := pEt_1 hE
    obtain ⟨hs1, hs2, hs3⟩ := shl_eq (k := v1 / 2) (by omega)
    have hr1 : (((v1 / 2).toNat : Nat) : Int) = v1 / 2 := by omega
    refine s_iload_n kx_277_25 rfl ?_
    refine s_iconst (v := 2) kx_277_26 (by decide) ?_
    refine r_idiv kx_277_27 (by omega) (by omega) (by omega) (by omega) ?_
    refine s_istore_n kx_277_28 km_277_3 rfl ?_
    refine s_iconst (v := (-1)) kx_277_29 (by decide) ?_
    refine s_istore kx_277_30 km_277_4 rfl ?_
    refine s_ldc_w kx_277_32 kp_277_571 ?_
    refine s_istore kx_277_35 km_277_5 rfl ?_
    refine s_iconst (v := 0) kx_277_37 (by decide) ?_
    refine s_istore kx_277_38 km_277_6 rfl ?_
    have key10 : ∀ n11 : Nat, ∀ (x4_6 x5_7 x6_8 : Int), ∀ M9 : cM, Rng M9 → Fr gR_277_m M M9 → Fr gR_277_l40 M2 M9 → ((-1) ≤ x4_6) → (x4_6 ≤ 4095) → (0 ≤ x5_7) → (x5_7 ≤ 100000000) → (0 ≤ x6_8) → (x6_8 ≤ 4096) → (x6_8 ≤ 2 ^ (v1 / 2).toNat) → (pLw (pEr D S s p (v1 / 2).toNat 0 (S 1 p.toNat)) (x6_8).toNat x5_7 x4_6) → (2147483647 - x6_8).toNat < n11 → cP k_P xs Ln (d + 5) 277 40 [(0, rf 63), (1, (0, p)), (3, (0, (v1 / 2))), (4, (0, x4_6)), (5, (0, x5_7)), (6, (0, x6_8))] [] (T, M9) (qW T M gR_277_m 0 (fun v M1 => ((v = -1 ∧ pEt D S s p (M 63 1) = 0 ∧ M1 63 68 = M 63 68 ∧ ∀ k, M1 106 k = M 106 k) ∨ (pEt D S s p (M 63 1) = 1 ∧ v = pVb D S s p (M 63 1 / 2).toNat 0 (S 1 p.toNat) ∧ M1 63 68 = (if v = -1 then 0 else M 63 1 / 2) ∧ (v ≠ -1 → ∀ k : Nat, (k : Int) < M 63 1 / 2 → M1 106 k = pTn D S s p (M 63 1 / 2).toNat k))) ∧ M1 63 1 = 0)) := by
      intro n11
      induction n11 with
      | zero => intro x4_6 x5_7 x6_8 M9 hI9 hFm9 fl9 i12 i13 i14 i15 i16 i17 i18 i19 hm20; exact absurd hm20 (Nat.not_lt_zero _)
      | succ n11 ih21 =>
        intro x4_6 x5_7 x6_8 M9 hI9 hFm9 fl9 i12 i13 i14 i15 i16 i17 i18 i19 hm20
        refine s_iload kx_277_40 rfl ?_
        refine s_iconst (v := 1) kx_277_42 (by decide) ?_
        refine s_iload_n kx_277_43 rfl ?_
        refine s_ishl (z := (tShl 1 (v1 / 2))) kx_277_44 rfl ?_
        refine s_icmp_ge (t := 88) kx_277_45 (by decide) (fun hc23 => ?_) (fun hc23 => ?_)
        · have hfin := pLw_end hD (i := x6_8) (by omega) i19
          refine s_aload_n kx_277_88 rfl ?_
          refine s_iload kx_277_89 rfl ?_
          refine s_iconst (v := (-1)) kx_277_91 (by decide) ?_
          refine s_icmp_ne (t := 99) kx_277_92 (by decide) (fun hc24 => ?_) (fun hc24 => ?_)
          · refine s_iload_n kx_277_99 rfl ?_
            refine r_put (k := 63) (f := 68) kx_277_100 kp_277_219 (tk_63 hT) kf_12_68 rfl (by decide) (by decide) hI9 (ru_63_68 (by omega) (by omega)) (fun M25 hI25 u25 => ?_)
            have hFm25 := hFm9.up u25 rfl
            have hc26 := (RR.up (RR.fr hc3 fl9 rfl) u25 (by omega))
            refine s_iconst (v := 0) kx_277_103 (by decide) ?_
            refine s_istore kx_277_104 km_277_6 rfl ?_
            have key29 : ∀ n30 : Nat, ∀ (x6_27 : Int), ∀ M28 : cM, Rng M28 → Fr gR_277_m M M28 → Fr gR_277_l106 M25 M28 → (0 ≤ x6_27) → (x6_27 ≤ 12) → (x6_27 ≤ v1 / 2) → (∀ k : Nat, (k : Int) < x6_27 → M28 106 k = pTn D S s p (v1 / 2).toNat k) → (2147483647 - x6_27).toNat < n30 → cP k_P xs Ln (d + 5) 277 106 [(0, rf 63), (3, (0, (v1 / 2))), (4, (0, x4_6)), (5, (0, x5_7)), (6, (0, x6_27))] [] (T, M28) (qW T M gR_277_m 0 (fun v M1 => ((v = -1 ∧ pEt D S s p (M 63 1) = 0 ∧ M1 63 68 = M 63 68 ∧ ∀ k, M1 106 k = M 106 k) ∨ (pEt D S s p (M 63 1) = 1 ∧ v = pVb D S s p (M 63 1 / 2).toNat 0 (S 1 p.toNat) ∧ M1 63 68 = (if v = -1 then 0 else M 63 1 / 2) ∧ (v ≠ -1 → ∀ k : Nat, (k : Int) < M 63 1 / 2 → M1 106 k = pTn D S s p (M 63 1 / 2).toNat k))) ∧ M1 63 1 = 0)) := by
              intro n30
              induction n30 with
              | zero => intro x6_27 M28 hI28 hFm28 fl28 i31 i32 i33 i34 hm35; exact absurd hm35 (Nat.not_lt_zero _)
              | succ n30 ih36 =>
                intro x6_27 M28 hI28 hFm28 fl28 i31 i32 i33 i34 hm35
                refine s_iload kx_277_106 rfl ?_
                refine s_aload_n kx_277_108 rfl ?_
                refine r_getK (k := 63) (f := 68) kx_277_109 kp_277_219 (tk_63 hT) kf_12_68 (fun _ => rfl) ((fl28 63 68 rfl).trans u25.1) ?_
                refine s_icmp_ge (t := 147) kx_277_112 (by decide) (fun hc37 => ?_) (fun hc37 => ?_)
                · refine s_iload kx_277_147 rfl ?_
                  refine s_iconst (v := (-1)) kx_277_149 (by decide) ?_
                  refine s_icmp_ne (t := 157) kx_277_150 (by decide) (fun hc38 => ?_) (fun hc38 => absurd hc38 (by omega))
                  refine s_iload kx_277_157 rfl ?_
                  exact s_iret kx_277_159 (Or.inl kq_277) ⟨_, _, rfl, rfl, hI28, hFm28, (by rw [v1e]; exact ⟨Or.inr ⟨hE, by omega, by rw [if_neg (by omega)]; have h9 := ((fl28 63 68 rfl).trans u25.1); omega, fun _ k hk => i34 k (by omega)⟩, ((fl28 63 1 rfl).trans ((u25.2 63 1 (by omega)).trans ((fl9 63 1 rfl).trans u2.1)))⟩)⟩
                · refine s_aload_n kx_277_115 rfl ?_
                  refine r_getR (k := 63) (f := 69) (k2 := 106) kx_277_116 kp_277_222 (tk_63 hT) kf_12_69 (by decide) (rq_63_69 hI28) ?_
                  refine s_iload kx_277_119 rfl ?_
                  refine s_iload kx_277_121 rfl ?_
                  refine s_iload_n kx_277_123 rfl ?_
                  refine s_iconst (v := 1) kx_277_124 (by decide) ?_
                  refine r_sub kx_277_125 ⟨by omega, by omega⟩ ?_
                  refine s_iload kx_277_126 rfl ?_
                  refine r_sub kx_277_128 ⟨by omega, by omega⟩ ?_
                  refine s_callS2 (s1 := 2) (s2 := 2) (as := [(0, (((v1 / 2) - 1) - x6_27)), (0, x4_6)]) (rest := [(0, x6_27), rf 106]) kx_277_129 kp_277_585 rfl kcl_222 rfl rfl (by decide) (g_222 (d := d + 4) (set_ := x4_6) (k := (((v1 / 2) - 1) - x6_27)) hT hI28 (by omega) (by omega)) (kF (fun v39 v39p => ?_))
                  have hc40 := (RR.fr hc26 fl28 rfl)
                  refine s_if_eq (t := 139) kx_277_132 (by decide) (fun hc41 => ?_) (fun hc41 => ?_)
                  · replace v39p := v39p.resolve_left (by omega)
                    refine s_iconst (v := 0) kx_277_139 (by decide) ?_
                    refine r_ast (k := 106) kx_277_140 (tk_106 hT) ⟨by omega, by omega⟩ hI28 ru_106 (fun M42 hI42 u42 => ?_)
                    have hFm42 := hFm28.up u42 rfl
                    have hFl10642 := fl28.up u42 rfl
                    have hc43 := (RR.up hc40 u42 (by omega))
                    refine r_iinc kx_277_141 rfl km_277_6 (by decide) ⟨by omega, by omega⟩ rfl ?_
                    refine s_goto (t := 106) kx_277_144 (by decide) ?_
                    exact cP.wk (lS1 rfl (lS1 rfl (lS1 rfl (lS1 rfl (lS1 rfl lS0))))) (ih36 (x6_27 + 1) M42 hI42 hFm42 hFl10642 (by omega) (by omega) (by omega) (pTq.nx i34 u42 rfl (by omega) (pTn_bit (x := x4_6) (by omega) (by omega) ⟨by omega, by omega⟩ (by rw [hr1]; omega))) (by omega))
                  · replace v39p := v39p.resolve_right (by omega)
                    refine s_iconst (v := 1) kx_277_135 (by decide) ?_
                    refine s_goto (t := 140) kx_277_136 (by decide) ?_
                    refine r_ast (k := 106) kx_277_140 (tk_106 hT) ⟨by omega, by omega⟩ hI28 ru_106 (fun M44 hI44 u44 => ?_)
                    have hFm44 := hFm28.up u44 rfl
                    have hFl10644 := fl28.up u44 rfl
                    have hc45 := (RR.up hc40 u44 (by omega))
                    refine r_iinc kx_277_141 rfl km_277_6 (by decide) ⟨by omega, by omega⟩ rfl ?_
                    refine s_goto (t := 106) kx_277_144 (by decide) ?_
                    exact cP.wk (lS1 rfl (lS1 rfl (lS1 rfl (lS1 rfl (lS1 rfl lS0))))) (ih36 (x6_27 + 1) M44 hI44 hFm44 hFl10644 (by omega) (by omega) (by omega) (pTq.nx i34 u44 rfl (by omega) (pTn_bit (x := x4_6) (by omega) (by omega) ⟨by omega, by omega⟩ (by rw [hr1]; omega))) (by omega))
            exact cP.wk (lS1 rfl (lS1 rfl (lS1 rfl (lS1 rfl (lS1 rfl lS0))))) (key29 _ 0 M25 hI25 hFm25 Fr.refl (by omega) (by omega) (by omega) (fun k a => absurd a (by omega)) (Nat.lt_succ_self _))
          · refine s_iconst (v := 0) kx_277_95 (by decide) ?_
            refine s_goto (t := 100) kx_277_96 (by decide) ?_
            refine r_put (k := 63) (f := 68) kx_277_100 kp_277_219 (tk_63 hT) kf_12_68 rfl (by decide) (by decide) hI9 (ru_63_68 (by omega) (by omega)) (fun M46 hI46 u46 => ?_)
            have hFm46 := hFm9.up u46 rfl
            have hc47 := (RR.up (RR.fr hc3 fl9 rfl) u46 (by omega))
            refine s_iconst (v := 0) kx_277_103 (by decide) ?_
            refine s_istore kx_277_104 km_277_6 rfl ?_
            have key50 : ∀ n51 : Nat, ∀ (x6_48 : Int), ∀ M49 : cM, Rng M49 → Fr gR_277_m M M49 → Fr gR_277_l106 M46 M49 → (0 ≤ x6_48) → (x6_48 ≤ 12) → (x6_48 ≤ v1 / 2) → (∀ k : Nat, (k : Int) < x6_48 → M49 106 k = pTn D S s p (v1 / 2).toNat k) → (2147483647 - x6_48).toNat < n51 → cP k_P xs Ln (d + 5) 277 106 [(0, rf 63), (3, (0, (v1 / 2))), (4, (0, x4_6)), (5, (0, x5_7)), (6, (0, x6_48))] [] (T, M49) (qW T M gR_277_m 0 (fun v M1 => ((v = -1 ∧ pEt D S s p (M 63 1) = 0 ∧ M1 63 68 = M 63 68 ∧ ∀ k, M1 106 k = M 106 k) ∨ (pEt D S s p (M 63 1) = 1 ∧ v = pVb D S s p (M 63 1 / 2).toNat 0 (S 1 p.toNat) ∧ M1 63 68 = (if v = -1 then 0 else M 63 1 / 2) ∧ (v ≠ -1 → ∀ k : Nat, (k : Int) < M 63 1 / 2 → M1 106 k = pTn D S s p (M 63 1 / 2).toNat k))) ∧ M1 63 1 = 0)) := by
              intro n51
              induction n51 with
              | zero => intro x6_48 M49 hI49 hFm49 fl49 i52 i53 i54 i55 hm56; exact absurd hm56 (Nat.not_lt_zero _)
              | succ n51 ih57 =>
                intro x6_48 M49 hI49 hFm49 fl49 i52 i53 i54 i55 hm56
                refine s_iload kx_277_106 rfl ?_
                refine s_aload_n kx_277_108 rfl ?_
                refine r_getK (k := 63) (f := 68) kx_277_109 kp_277_219 (tk_63 hT) kf_12_68 (fun _ => rfl) ((fl49 63 68 rfl).trans u46.1) ?_
                refine s_icmp_ge (t := 147) kx_277_112 (by decide) (fun hc58 => ?_) (fun hc58 => absurd hc58 (by omega))
                refine s_iload kx_277_147 rfl ?_
                refine s_iconst (v := (-1)) kx_277_149 (by decide) ?_
                refine s_icmp_ne (t := 157) kx_277_150 (by decide) (fun hc59 => absurd hc59 (by omega)) (fun hc59 => ?_)
                refine s_iconst (v := (-1)) kx_277_153 (by decide) ?_
                refine s_goto (t := 159) kx_277_154 (by decide) ?_
                exact s_iret kx_277_159 (Or.inl kq_277) ⟨_, _, rfl, rfl, hI49, hFm49, (by rw [v1e]; exact ⟨Or.inr ⟨hE, by omega, by rw [if_pos rfl]; have h9 := ((fl49 63 68 rfl).trans u46.1); omega, fun z => absurd rfl z⟩, ((fl49 63 1 rfl).trans ((u46.2 63 1 (by omega)).trans ((fl9 63 1 rfl).trans u2.1)))⟩)⟩
            exact cP.wk (lS1 rfl (lS1 rfl (lS1 rfl (lS1 rfl (lS1 rfl lS0))))) (key50 _ 0 M46 hI46 hFm46 Fr.refl (by omega) (by omega) (by omega) (fun k a => absurd a (by omega)) (Nat.lt_succ_self _))
        · refine s_aload_n kx_277_48 rfl ?_
          refine s_iload_n kx_277_49 rfl ?_
          refine s_iload_n kx_277_50 rfl ?_
          refine s_iload kx_277_51 rfl ?_
          refine s_callV2 (k := 63) (s1 := 4) (s2 := 0) (as := [(0, x6_8), (0, (v1 / 2)), (0, p)]) (rest := []) kx_277_53 kp_277_591 (Or.inl rfl) rfl (tk_63 hT) ki_275 kcl_275 rfl rfl (by decide) (g_275 (d := d) (p := p) (many := (v1 / 2)) (way := x6_8) hT hI9 (RR.fr hc3 fl9 rfl) ((funext fun i => ((fl9 64 _ rfl).trans (u2.2 64 _ (by omega)))).trans hs) (n := v1) hE rfl (by omega) (by omega) (by omega) (by omega) (by omega)) (kW (fun v60 M61 hI61 fr61 v60p => ?_))
          have hFm61 := hFm9.call fr61 rfl
          have hFl4061 := fl9.call fr61 rfl
          have hc62 := (RR.fr (RR.fr hc3 fl9 rfl) fr61 rfl)
          refine s_istore kx_277_56 km_277_7 rfl ?_
          refine s_iload kx_277_58 rfl ?_
          refine s_iconst (v := (-1)) kx_277_60 (by decide) ?_
          refine s_icmp_eq (t := 82) kx_277_61 (by decide) (fun hc63 => ?_) (fun hc63 => ?_)
          · refine r_iinc kx_277_82 rfl km_277_6 (by decide) ⟨by omega, by omega⟩ rfl ?_
            refine s_goto (t := 40) kx_277_85 (by decide) ?_
            exact cP.wk (lS1 rfl (lS1 rfl (lS1 rfl (lS1 rfl (lS1 rfl (lS1 rfl lS0)))))) (ih21 x4_6 x5_7 (x6_8 + 1) M61 hI61 hFm61 hFl4061 (by omega) (by omega) (by omega) (by omega) (by omega) (by omega) (by omega) (pLw.nx i19 (by omega) v60p.2.2 (by omega) (by omega)) (by omega))
          · refine s_iload kx_277_64 rfl ?_
            refine s_iload kx_277_66 rfl ?_
            refine s_icmp_lt (t := 74) kx_277_68 (by decide) (fun hc64 => ?_) (fun hc64 => ?_)
            · refine s_iload kx_277_74 rfl ?_
              refine s_istore kx_277_76 km_277_5 rfl ?_
              refine s_iload kx_277_78 rfl ?_
              refine s_istore kx_277_80 km_277_4 rfl ?_
              refine r_iinc kx_277_82 rfl km_277_6 (by decide) ⟨by omega, by omega⟩ rfl ?_
              refine s_goto (t := 40) kx_277_85 (by decide) ?_
              exact cP.wk (lS1 rfl (lS1 rfl (lS1 rfl (lS1 rfl (lS1 rfl (lS1 rfl lS0)))))) (ih21 x6_8 v60 (x6_8 + 1) M61 hI61 hFm61 hFl4061 (by omega) (by omega) (by omega) (by omega) (by omega) (by omega) (by omega) (pLw.nx i19 (by omega) v60p.2.2 (by omega) (by omega)) (by omega))
            · refine s_goto (t := 82) kx_277_71 (by decide) ?_
              refine r_iinc kx_277_82 rfl km_277_6 (by decide) ⟨by omega, by omega⟩ rfl ?_
              refine s_goto (t := 40) kx_277_85 (by decide) ?_
              exact cP.wk (lS1 rfl (lS1 rfl (lS1 rfl (lS1 rfl (lS1 rfl (lS1 rfl lS0)))))) (ih21 x4_6 x5_7 (x6_8 + 1) M61 hI61 hFm61 hFl4061 (by omega) (by omega) (by omega) (by omega) (by omega) (by omega) (by omega) (pLw.nx i19 (by omega) v60p.2.2 (by omega) (by omega)) (by omega))
    exact cP.wk (lS1 rfl (lS1 rfl (lS1 rfl (lS1 rfl (lS1 rfl (lS1 rfl lS0)))))) (key10 _ (-1) 100000000 0 M2 hI2 hFm2 Fr.refl (by omega) (by omega) (by omega) (by omega) (by omega) (by omega) (by omega) pLw.z (Nat.lt_succ_self _))
  · replace v4p := v4p.resolve_left (by omega)
    refine s_aload_n kx_277_19 rfl ?_
    refine s_iconst (v := 5) kx_277_20 (by decide) ?_
    refine s_callV2 (k := 63) (s1 := 2) (s2 := 0) (as := [(0, 5)]) (rest := []) kx_277_21 kp_277_255 (Or.inl rfl) rfl (tk_63 hT) ki_218 kcl_218 rfl rfl (by decide) (m_218 (d := d + 4) (kind := 5) hT hI2 (by omega)) (kW (fun v65 M66 hI66 fr66 v65p => ?_))
    have hFm66 := hFm2.call fr66 rfl
    have hc67 := (RR.fr hc3 fr66 rfl)
    exact s_iret kx_277_24 (Or.inl kq_277) ⟨_, _, rfl, rfl, hI66, hFm66, (by rw [v1e]; exact ⟨Or.inl ⟨by omega, by omega, ((fr66 63 68 rfl).trans (u2.2 63 68 (by omega))), fun k => ((fr66 106 _ rfl).trans (u2.2 106 _ (by omega)))⟩, ((fr66 63 1 rfl).trans u2.1)⟩)⟩
