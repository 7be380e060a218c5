theorem g_290 {xs : Nat → Int} {Ln d : Nat} {T : List cK} {M : cM} (hT : TT T) (hI : Rng M) {at_ : Int} {s : Nat → Int} (hs : M 64 = s) (p0 : 0 ≤ at_ ∧ at_ ≤ 1797) : cC k_P xs Ln (d + 0) 290 [rf 63, (0, at_)] (T, M) (qF T M 0 (fun v => v = p3b s at_)) := by
  show cP k_P xs Ln (d + 0) 290 0 [(0, rf 63), (1, (0, at_))] [] (T, M) _
  refine s_aload_n kx_290_0 rfl ?_
  refine r_getR (k := 63) (f := 0) (k2 := 64) kx_290_1 kp_290_7 (tk_63 hT) kf_12_0 (by decide) (rq_63_0 hI) ?_
  refine s_iload_n kx_290_4 rfl ?_
  refine r_ald (k := 64) kx_290_5 (tk_64 hT) ⟨by omega, by omega⟩ (rg_64 hI) (fun v1 v1e v1a v1b => ?_)
  have v1r : s (at_).toNat = v1 := (congrFun hs (at_).toNat).symm.trans (v1e)
  refine s_bipush (v := 16) kx_290_6 (by decide) ?_
  refine s_ishl (z := (tbL v1 16)) kx_290_8 rfl ?_
  refine s_aload_n kx_290_9 rfl ?_
  refine r_getR (k := 63) (f := 0) (k2 := 64) kx_290_10 kp_290_7 (tk_63 hT) kf_12_0 (by decide) (rq_63_0 hI) ?_
  refine s_iload_n kx_290_13 rfl ?_
  refine s_iconst (v := 1) kx_290_14 (by decide) ?_
  refine r_add kx_290_15 ⟨by omega, by omega⟩ ?_
  refine r_ald (k := 64) kx_290_16 (tk_64 hT) ⟨by omega, by omega⟩ (rg_64 hI) (fun v3 v3e v3a v3b => ?_)
  have v3r : s ((at_ + 1)).toNat = v3 := (congrFun hs ((at_ + 1)).toNat).symm.trans (v3e)
  refine s_bipush (v := 8) kx_290_17 (by decide) ?_
  refine s_ishl (z := (tbL v3 8)) kx_290_19 rfl ?_
  refine s_ior (z := (tbO (tbL v1 16) (tbL v3 8))) kx_290_20 rfl ?_
  refine s_aload_n kx_290_21 rfl ?_
  refine r_getR (k := 63) (f := 0) (k2 := 64) kx_290_22 kp_290_7 (tk_63 hT) kf_12_0 (by decide) (rq_63_0 hI) ?_
  refine s_iload_n kx_290_25 rfl ?_
  refine s_iconst (v := 2) kx_290_26 (by decide) ?_
  refine r_add kx_290_27 ⟨by omega, by omega⟩ ?_
  refine r_ald (k := 64) kx_290_28 (tk_64 hT) ⟨by omega, by omega⟩ (rg_64 hI) (fun v6 v6e v6a v6b => ?_)
  have v6r : s ((at_ + 2)).toNat = v6 := (congrFun hs ((at_ + 2)).toNat).symm.trans (v6e)
  refine s_ior (z := (tbO (tbO (tbL v1 16) (tbL v3 8)) v6)) kx_290_29 rfl ?_
  exact s_iret kx_290_30 (Or.inl kq_290) ⟨_, rfl, rfl, (by unfold p3b; rw [v1r, v3r, v6r])⟩
def gR_291_m : List (Nat × Nat) := [(92, 99999), (93, 99999), (94, 99999), (95, 99999), (96, 99999)]
theorem g_291 {xs : Nat → Int} {Ln d : Nat} {T : List cK} {M : cM} (hT : TT T) (hI : Rng M) {p at_ : Int} {D S : cM} (hR : RR D S M) {H : Nat → cM} {hc : Int} (hH : RH D H hc M) {s : Nat → Int} (hs : M 64 = s) (p0 : 0 ≤ p ∧ p ≤ 7) (p1 : 0 ≤ at_ ∧ at_ ≤ 63) (p2 : p < D 0 1) (p3 : at_ = 9 * p) : cC k_P xs Ln (d + 1) 291 [rf 63, (0, p), (0, at_)] (T, M) (qW T M gR_291_m 0 (fun v M1 => ((v = 1 ∧ cPe D s p = 1 ∧ (zR M 92 1 8 → zR M1 92 1 8) ∧ (zR M 93 1 8 → zR M1 93 1 8)) ∨ (v = 0 ∧ cPe D s p = 0)) ∧ RR D S M1 ∧ RH D H hc M1 ∧ (M1 92 (8 + p).toNat = s (9 * p).toNat ∧ M1 93 (8 + p).toNat = s (9 * p + 1).toNat ∧ M1 94 (8 + p).toNat = s (9 * p + 2).toNat ∧ M1 95 (8 + p).toNat = p3b s (9 * p + 3)) ∧ (∀ c, c = 92 ∨ c = 93 ∨ c = 94 ∨ c = 95 → ∀ f, f ≠ (8 + p).toNat → M1 c f = M c f))) := by
  show cP k_P xs Ln (d + 1) 291 0 [(0, rf 63), (1, (0, p)), (2, (0, at_))] [] (T, M) _
  have hFm : Fr gR_291_m M M := Fr.refl
  have hD := hR.2.1
  have hDr := hD.rg
  have hSW := hR.2.2.2.2.1
  refine s_bipush (v := 8) kx_291_0 (by decide) ?_
  refine s_iload_n kx_291_2 rfl ?_
  refine r_add kx_291_3 ⟨by omega, by omega⟩ ?_
  refine s_istore_n kx_291_4 km_291_3 rfl ?_
  refine s_aload_n kx_291_5 rfl ?_
  refine r_getR (k := 63) (f := 48) (k2 := 92) kx_291_6 kp_291_159 (tk_63 hT) kf_12_48 (by decide) (rq_63_48 hI) ?_
  refine s_iload_n kx_291_9 rfl ?_
  refine s_aload_n kx_291_10 rfl ?_
  refine r_getR (k := 63) (f := 0) (k2 := 64) kx_291_11 kp_291_7 (tk_63 hT) kf_12_0 (by decide) (rq_63_0 hI) ?_
  refine s_iload_n kx_291_14 rfl ?_
  refine r_ald (k := 64) kx_291_15 (tk_64 hT) ⟨by omega, by omega⟩ (rg_64 hI) (fun v1 v1e v1a v1b => ?_)
  have v1r : s (at_).toNat = v1 := (congrFun hs (at_).toNat).symm.trans (v1e)
  have v1s : s (9 * p).toNat = v1 := (congrArg s (by omega)).trans v1r
  refine r_ast (k := 92) kx_291_16 (tk_92 hT) ⟨by omega, by omega⟩ hI (ru_92 (fun _ => by omega)) (fun M2 hI2 u2 => ?_)
  have hFm2 := hFm.up u2 rfl
  have hc3 := (RR.u92 hR (by decide) u2 (by omega))
  have hc4 := (RH.up hH hD.1 u2 (by omega))
  refine s_aload_n kx_291_17 rfl ?_
  refine r_getR (k := 63) (f := 49) (k2 := 93) kx_291_18 kp_291_162 (tk_63 hT) kf_12_49 (by decide) (rq_63_49 hI2) ?_
  refine s_iload_n kx_291_21 rfl ?_
  refine s_aload_n kx_291_22 rfl ?_
  refine r_getR (k := 63) (f := 0) (k2 := 64) kx_291_23 kp_291_7 (tk_63 hT) kf_12_0 (by decide) (rq_63_0 hI2) ?_
  refine s_iload_n kx_291_26 rfl ?_
  refine s_iconst (v := 1) kx_291_27 (by decide) ?_
  refine r_add kx_291_28 ⟨by omega, by omega⟩ ?_
  refine r_ald (k := 64) kx_291_29 (tk_64 hT) ⟨by omega, by omega⟩ (rg_64 hI2) (fun v5 v5e v5a v5b => ?_)
  have v5r : s ((at_ + 1)).toNat = v5 := (congrFun hs ((at_ + 1)).toNat).symm.trans (((u2.2 64 _ (by omega))).symm.trans v5e)
  have v5s : s (9 * p + 1).toNat = v5 := (congrArg s (by omega)).trans v5r
  refine r_ast (k := 93) kx_291_30 (tk_93 hT) ⟨by omega, by omega⟩ hI2 (ru_93 (fun _ => by omega)) (fun M6 hI6 u6 => ?_)
  have hFm6 := hFm2.up u6 rfl
  have hc7 := (RR.u92 hc3 (by decide) u6 (by omega))
  have hc8 := (RH.up hc4 hD.1 u6 (by omega))
  refine s_aload_n kx_291_31 rfl ?_
  refine r_getR (k := 63) (f := 50) (k2 := 94) kx_291_32 kp_291_165 (tk_63 hT) kf_12_50 (by decide) (rq_63_50 hI6) ?_
  refine s_iload_n kx_291_35 rfl ?_
  refine s_aload_n kx_291_36 rfl ?_
  refine r_getR (k := 63) (f := 0) (k2 := 64) kx_291_37 kp_291_7 (tk_63 hT) kf_12_0 (by decide) (rq_63_0 hI6) ?_
  refine s_iload_n kx_291_40 rfl ?_
  refine s_iconst (v := 2) kx_291_41 (by decide) ?_
  refine r_add kx_291_42 ⟨by omega, by omega⟩ ?_
  refine r_ald (k := 64) kx_291_43 (tk_64 hT) ⟨by omega, by omega⟩ (rg_64 hI6) (fun v9 v9e v9a v9b => ?_)
  have v9r : s ((at_ + 2)).toNat = v9 := (congrFun hs ((at_ + 2)).toNat).symm.trans ((((u6.2 64 _ (by omega)).trans (u2.2 64 _ (by omega)))).symm.trans v9e)
  have v9s : s (9 * p + 2).toNat = v9 := (congrArg s (by omega)).trans v9r
  refine r_ast (k := 94) kx_291_44 (tk_94 hT) ⟨by omega, by omega⟩ hI6 ru_94 (fun M10 hI10 u10 => ?_)
  have hFm10 := hFm6.up u10 rfl
  have hc11 := (RR.u92 hc7 (by decide) u10 (by omega))
  have hc12 := (RH.up hc8 hD.1 u10 (by omega))
  refine s_aload_n kx_291_45 rfl ?_
  refine r_getR (k := 63) (f := 51) (k2 := 95) kx_291_46 kp_291_168 (tk_63 hT) kf_12_51 (by decide) (rq_63_51 hI10) ?_
  refine s_iload_n kx_291_49 rfl ?_
  refine s_aload_n kx_291_50 rfl ?_
  refine s_iload_n kx_291_51 rfl ?_
  refine s_iconst (v := 3) kx_291_52 (by decide) ?_
  refine r_add kx_291_53 ⟨by omega, by omega⟩ ?_
  refine s_callV2 (k := 63) (s1 := 2) (s2 := 2) (as := [(0, (at_ + 3))]) (rest := [(0, (8 + p)), rf 95]) kx_291_54 kp_291_615 (Or.inl rfl) rfl (tk_63 hT) ki_290 kcl_290 rfl rfl (by decide) (g_290 (d := d) (at_ := (at_ + 3)) hT hI10 ((funext fun i => ((u10.2 64 _ (by omega)).trans ((u6.2 64 _ (by omega)).trans (u2.2 64 _ (by omega))))).trans hs) (by omega)) (kF (fun v13 v13p => ?_))
  have v13q : v13 = p3b s (9 * p + 3) := by rw [v13p, show at_ + 3 = 9 * p + 3 by omega]
  refine r_ast (k := 95) kx_291_57 (tk_95 hT) ⟨by omega, by omega⟩ hI10 ru_95 (fun M14 hI14 u14 => ?_)
  have hFm14 := hFm10.up u14 rfl
  have hc15 := (RR.u92 hc11 (by decide) u14 (by omega))
  have hc16 := (RH.up hc12 hD.1 u14 (by omega))
  refine s_aload_n kx_291_58 rfl ?_
  refine r_getR (k := 63) (f := 52) (k2 := 96) kx_291_59 kp_291_171 (tk_63 hT) kf_12_52 (by decide) (rq_63_52 hI14) ?_
  refine s_iload_n kx_291_62 rfl ?_
  refine s_aload_n kx_291_63 rfl ?_
  refine s_iload_n kx_291_64 rfl ?_
  refine s_bipush (v := 6) kx_291_65 (by decide) ?_
  refine r_add kx_291_67 ⟨by omega, by omega⟩ ?_
  refine s_callV2 (k := 63) (s1 := 2) (s2 := 2) (as := [(0, (at_ + 6))]) (rest := [(0, (8 + p)), rf 96]) kx_291_68 kp_291_615 (Or.inl rfl) rfl (tk_63 hT) ki_290 kcl_290 rfl rfl (by decide) (g_290 (d := d) (at_ := (at_ + 6)) hT hI14 ((funext fun i => ((u14.2 64 _ (by omega)).trans ((u10.2 64 _ (by omega)).trans ((u6.2 64 _ (by omega)).trans (u2.2 64 _ (by omega)))))).trans hs) (by omega)) (kF (fun v17 v17p => ?_))
  have v17q : v17 = p3b s (9 * p + 6) := by rw [v17p, show at_ + 6 = 9 * p + 6 by omega]
  refine r_ast (k := 96) kx_291_71 (tk_96 hT) ⟨by omega, by omega⟩ hI14 ru_96 (fun M18 hI18 u18 => ?_)
  have hFm18 := hFm14.up u18 rfl
  have hc19 := (RR.up hc15 u18 (by omega))
  have hc20 := (RH.up hc16 hD.1 u18 (by omega))
  refine s_aload_n kx_291_72 rfl ?_
  refine s_aload_n kx_291_73 rfl ?_
  refine r_getR (k := 63) (f := 0) (k2 := 64) kx_291_74 kp_291_7 (tk_63 hT) kf_12_0 (by decide) (rq_63_0 hI18) ?_
  refine s_iload_n kx_291_77 rfl ?_
  refine r_aldK (k := 64) kx_291_78 (tk_64 hT) ⟨by omega, by omega⟩ ((u18.2 64 _ (by omega)).trans ((u14.2 64 _ (by omega)).trans ((u10.2 64 _ (by omega)).trans ((u6.2 64 _ (by omega)).trans ((u2.2 64 _ (by omega)).trans v1e))))) ?_
  refine s_callV2 (k := 63) (s1 := 2) (s2 := 0) (as := [(0, v1)]) (rest := []) kx_291_79 kp_291_508 (Or.inl rfl) rfl (tk_63 hT) ki_220 kcl_220 rfl rfl (by decide) (g_220 (d := d) (r := v1) hT hI18 hc19) (kF (fun v21 v21p => ?_))
  refine s_if_eq (t := 140) kx_291_82 (by decide) (fun hc22 => ?_) (fun hc22 => ?_)
  · replace v21p := v21p.resolve_left (by omega)
    refine s_iconst (v := 0) kx_291_140 (by decide) ?_
    exact s_iret kx_291_141 (Or.inr ⟨kq_291, by omega⟩) ⟨_, _, rfl, rfl, hI18, hFm18, ⟨(Or.inr ⟨rfl, by unfold cPe; exact if_neg (by omega)⟩), hc19, hc20, ⟨(((u18.2 92 _ (by omega)).trans ((u14.2 92 _ (by omega)).trans ((u10.2 92 _ (by omega)).trans ((u6.2 92 _ (by omega)).trans (u2.1))))).trans (v1s).symm), (((u18.2 93 _ (by omega)).trans ((u14.2 93 _ (by omega)).trans ((u10.2 93 _ (by omega)).trans (u6.1)))).trans (v5s).symm), (((u18.2 94 _ (by omega)).trans ((u14.2 94 _ (by omega)).trans (u10.1))).trans (v9s).symm), (((u18.2 95 _ (by omega)).trans (u14.1)).trans v13q)⟩, (fun c hc f hf => (u18.2 c f (by omega)).trans ((u14.2 c f (by omega)).trans ((u10.2 c f (by omega)).trans ((u6.2 c f (by omega)).trans ((u2.2 c f (by omega)).trans (rfl))))))⟩⟩
  · replace v21p := v21p.resolve_right (by omega)
    refine s_aload_n kx_291_85 rfl ?_
    refine s_aload_n kx_291_86 rfl ?_
    refine r_getR (k := 63) (f := 0) (k2 := 64) kx_291_87 kp_291_7 (tk_63 hT) kf_12_0 (by decide) (rq_63_0 hI18) ?_
    refine s_iload_n kx_291_90 rfl ?_
    refine s_iconst (v := 1) kx_291_91 (by decide) ?_
    refine r_add kx_291_92 ⟨by omega, by omega⟩ ?_
    refine r_aldK (k := 64) kx_291_93 (tk_64 hT) ⟨by omega, by omega⟩ ((u18.2 64 _ (by omega)).trans ((u14.2 64 _ (by omega)).trans ((u10.2 64 _ (by omega)).trans ((u6.2 64 _ (by omega)).trans v5e)))) ?_
    refine s_callV2 (k := 63) (s1 := 2) (s2 := 0) (as := [(0, v5)]) (rest := []) kx_291_94 kp_291_508 (Or.inl rfl) rfl (tk_63 hT) ki_220 kcl_220 rfl rfl (by decide) (g_220 (d := d) (r := v5) hT hI18 hc19) (kF (fun v23 v23p => ?_))
    refine s_if_eq (t := 140) kx_291_97 (by decide) (fun hc24 => ?_) (fun hc24 => ?_)
    · replace v23p := v23p.resolve_left (by omega)
      refine s_iconst (v := 0) kx_291_140 (by decide) ?_
      exact s_iret kx_291_141 (Or.inr ⟨kq_291, by omega⟩) ⟨_, _, rfl, rfl, hI18, hFm18, ⟨(Or.inr ⟨rfl, by unfold cPe; exact if_neg (by omega)⟩), hc19, hc20, ⟨(((u18.2 92 _ (by omega)).trans ((u14.2 92 _ (by omega)).trans ((u10.2 92 _ (by omega)).trans ((u6.2 92 _ (by omega)).trans (u2.1))))).trans (v1s).symm), (((u18.2 93 _ (by omega)).trans ((u14.2 93 _ (by omega)).trans ((u10.2 93 _ (by omega)).trans (u6.1)))).trans (v5s).symm), (((u18.2 94 _ (by omega)).trans ((u14.2 94 _ (by omega)).trans (u10.1))).trans (v9s).symm), (((u18.2 95 _ (by omega)).trans (u14.1)).trans v13q)⟩, (fun c hc f hf => (u18.2 c f (by omega)).trans ((u14.2 c f (by omega)).trans ((u10.2 c f (by omega)).trans ((u6.2 c f (by omega)).trans ((u2.2 c f (by omega)).trans (rfl))))))⟩⟩
    · replace v23p := v23p.resolve_right (by omega)
      refine s_aload_n kx_291_100 rfl ?_
      refine r_getR (k := 63) (f := 0) (k2 := 64) kx_291_101 kp_291_7 (tk_63 hT) kf_12_0 (by decide) (rq_63_0 hI18) ?_
      refine s_iload_n kx_291_104 rfl ?_
      refine s_iconst (v := 2) kx_291_105 (by decide) ?_
      refine r_add kx_291_106 ⟨by omega, by omega⟩ ?_
      refine r_aldK (k := 64) kx_291_107 (tk_64 hT) ⟨by omega, by omega⟩ ((u18.2 64 _ (by omega)).trans ((u14.2 64 _ (by omega)).trans ((u10.2 64 _ (by omega)).trans v9e))) ?_
      refine s_iconst (v := 2) kx_291_108 (by decide) ?_
      refine s_icmp_ge (t := 140) kx_291_109 (by decide) (fun hc25 => ?_) (fun hc25 => ?_)
      · refine s_iconst (v := 0) kx_291_140 (by decide) ?_
        exact s_iret kx_291_141 (Or.inr ⟨kq_291, by omega⟩) ⟨_, _, rfl, rfl, hI18, hFm18, ⟨(Or.inr ⟨rfl, by unfold cPe; exact if_neg (by omega)⟩), hc19, hc20, ⟨(((u18.2 92 _ (by omega)).trans ((u14.2 92 _ (by omega)).trans ((u10.2 92 _ (by omega)).trans ((u6.2 92 _ (by omega)).trans (u2.1))))).trans (v1s).symm), (((u18.2 93 _ (by omega)).trans ((u14.2 93 _ (by omega)).trans ((u10.2 93 _ (by omega)).trans (u6.1)))).trans (v5s).symm), (((u18.2 94 _ (by omega)).trans ((u14.2 94 _ (by omega)).trans (u10.1))).trans (v9s).symm), (((u18.2 95 _ (by omega)).trans (u14.1)).trans v13q)⟩, (fun c hc f hf => (u18.2 c f (by omega)).trans ((u14.2 c f (by omega)).trans ((u10.2 c f (by omega)).trans ((u6.2 c f (by omega)).trans ((u2.2 c f (by omega)).trans (rfl))))))⟩⟩
      · refine s_aload_n kx_291_112 rfl ?_
        refine r_getR (k := 63) (f := 51) (k2 := 95) kx_291_113 kp_291_168 (tk_63 hT) kf_12_51 (by decide) (rq_63_51 hI18) ?_
        refine s_iload_n kx_291_116 rfl ?_
        refine r_aldK (k := 95) kx_291_117 (tk_95 hT) ⟨by omega, by omega⟩ ((u18.2 95 _ (by omega)).trans u14.1) ?_
        refine s_ldc_w kx_291_118 kp_291_541 ?_
        refine s_icmp_gt (t := 140) kx_291_121 (by decide) (fun hc26 => ?_) (fun hc26 => ?_)
        · refine s_iconst (v := 0) kx_291_140 (by decide) ?_
          exact s_iret kx_291_141 (Or.inr ⟨kq_291, by omega⟩) ⟨_, _, rfl, rfl, hI18, hFm18, ⟨(Or.inr ⟨rfl, by unfold cPe; exact if_neg (by omega)⟩), hc19, hc20, ⟨(((u18.2 92 _ (by omega)).trans ((u14.2 92 _ (by omega)).trans ((u10.2 92 _ (by omega)).trans ((u6.2 92 _ (by omega)).trans (u2.1))))).trans (v1s).symm), (((u18.2 93 _ (by omega)).trans ((u14.2 93 _ (by omega)).trans ((u10.2 93 _ (by omega)).trans (u6.1)))).trans (v5s).symm), (((u18.2 94 _ (by omega)).trans ((u14.2 94 _ (by omega)).trans (u10.1))).trans (v9s).symm), (((u18.2 95 _ (by omega)).trans (u14.1)).trans v13q)⟩, (fun c hc f hf => (u18.2 c f (by omega)).trans ((u14.2 c f (by omega)).trans ((u10.2 c f (by omega)).trans ((u6.2 c f (by omega)).trans ((u2.2 c f (by omega)).trans (rfl))))))⟩⟩
        · refine s_aload_n kx_291_124 rfl ?_
          refine r_getR (k := 63) (f := 52) (k2 := 96) kx_291_125 kp_291_171 (tk_63 hT) kf_12_52 (by decide) (rq_63_52 hI18) ?_
          refine s_iload_n kx_291_128 rfl ?_
          refine r_aldK (k := 96) kx_291_129 (tk_96 hT) ⟨by omega, by omega⟩ u18.1 ?_
          refine s_ldc_w kx_291_130 kp_291_541 ?_
          refine s_icmp_gt (t := 140) kx_291_133 (by decide) (fun hc27 => ?_) (fun hc27 => ?_)
          · refine s_iconst (v := 0) kx_291_140 (by decide) ?_
            exact s_iret kx_291_141 (Or.inr ⟨kq_291, by omega⟩) ⟨_, _, rfl, rfl, hI18, hFm18, ⟨(Or.inr ⟨rfl, by unfold cPe; exact if_neg (by omega)⟩), hc19, hc20, ⟨(((u18.2 92 _ (by omega)).trans ((u14.2 92 _ (by omega)).trans ((u10.2 92 _ (by omega)).trans ((u6.2 92 _ (by omega)).trans (u2.1))))).trans (v1s).symm), (((u18.2 93 _ (by omega)).trans ((u14.2 93 _ (by omega)).trans ((u10.2 93 _ (by omega)).trans (u6.1)))).trans (v5s).symm), (((u18.2 94 _ (by omega)).trans ((u14.2 94 _ (by omega)).trans (u10.1))).trans (v9s).symm), (((u18.2 95 _ (by omega)).trans (u14.1)).trans v13q)⟩, (fun c hc f hf => (u18.2 c f (by omega)).trans ((u14.2 c f (by omega)).trans ((u10.2 c f (by omega)).trans ((u6.2 c f (by omega)).trans ((u2.2 c f (by omega)).trans (rfl))))))⟩⟩
          · refine s_iconst (v := 1) kx_291_136 (by decide) ?_
            refine s_goto (t := 141) kx_291_137 (by decide) ?_
            exact s_iret kx_291_141 (Or.inr ⟨kq_291, by omega⟩) ⟨_, _, rfl, rfl, hI18, hFm18, ⟨(Or.inl ⟨rfl, by unfold cPe; exact if_pos (by omega), fun hz => (zR.up (zR.up (zR.up (zR.up (zR.up hz u2 (fun _ => by omega)) u6 (fun e => absurd e (by decide))) u10 (fun e => absurd e (by decide))) u14 (fun e => absurd e (by decide))) u18 (fun e => absurd e (by decide))), fun hz => (zR.up (zR.up (zR.up (zR.up (zR.up hz u2 (fun e => absurd e (by decide))) u6 (fun _ => by omega)) u10 (fun e => absurd e (by decide))) u14 (fun e => absurd e (by decide))) u18 (fun e => absurd e (by decide)))⟩), hc19, hc20, ⟨(((u18.2 92 _ (by omega)).trans ((u14.2 92 _ (by omega)).trans ((u10.2 92 _ (by omega)).trans ((u6.2 92 _ (by omega)).trans (u2.1))))).trans (v1s).symm), (((u18.2 93 _ (by omega)).trans ((u14.2 93 _ (by omega)).trans ((u10.2 93 _ (by omega)).trans (u6.1)))).trans (v5s).symm), (((u18.2 94 _ (by omega)).trans ((u14.2 94 _ (by omega)).trans (u10.1))).trans (v9s).symm), (((u18.2 95 _ (by omega)).trans (u14.1)).trans v13q)⟩, (fun c hc f hf => (u18.2 c f (by omega)).trans ((u14.2 c f (by omega)).trans ((u10.2 c f (by omega)).trans ((u6.2 c f (by omega)).trans ((u2.2 c f (by omega)).trans (rfl))))))⟩⟩
def gR2_224_l114 : List (Nat × Nat) := [(100, 99999), (101, 99999), (98, 99999), (99, 99999)]
def gR2_224_l2 : List (Nat × Nat) := [(92, 99999), (93, 99999), (94, 99999), (95, 99999), (96, 99999)]
def gR2_224_m : List (Nat × Nat) := [(100, 99999), (101, 99999), (92, 99999), (93, 99999), (94, 99999), (95, 99999), (96, 99999), (97, 99999), (98, 99999), (99, 99999)]
theorem g2_224 {xs : Nat → Int} {Ln d : Nat} {T : List cK} {M : cM} (hT : TT T) (hI : Rng M) {to from_ : Int} (p0 : 0 ≤ to ∧ to ≤ 21) (p1 : 0 ≤ from_ ∧ from_ ≤ 21) (p2 : zR M 92 from_ 8) (p3 : zR M 93 from_ 8) (p4 : to ≠ from_) : cC k_P xs Ln (d + 0) 224 [rf 63, (0, to), (0, from_)] (T, M) (qV T M gR2_224_m (fun M1 => CPr to from_ M 8 M1 ∧ zR M1 92 to 8 ∧ zR M1 93 to 8 ∧ CPk to from_ M M1)) := by
  show cP k_P xs Ln (d + 0) 224 0 [(0, rf 63), (1, (0, to)), (2, (0, from_))] [] (T, M) _
  have hFm : Fr gR2_224_m M M := Fr.refl
  refine s_iconst (v := 0) kx_224_0 (by decide) ?_
  refine s_istore_n kx_224_1 km_224_3 rfl ?_
  have key3 : ∀ n4 : Nat, ∀ (x3_1 : Int), ∀ M2 : cM, Rng M2 → Fr gR2_224_m M M2 → Fr gR2_224_l2 M M2 → (0 ≤ x3_1) → (x3_1 ≤ 8) → (zR M2 92 from_ 8) → (zR M2 93 from_ 8) → (zR M2 92 to x3_1) → (zR M2 93 to x3_1) → (CPr to from_ M x3_1 M2) → (2147483647 - x3_1).toNat < n4 → cP k_P xs Ln (d + 0) 224 2 [(0, rf 63), (1, (0, to)), (2, (0, from_)), (3, (0, x3_1))] [] (T, M2) (qV T M gR2_224_m (fun M1 => CPr to from_ M 8 M1 ∧ zR M1 92 to 8 ∧ zR M1 93 to 8 ∧ CPk to from_ M M1)) := by
    intro n4
    induction n4 with
    | zero => intro x3_1 M2 hI2 hFm2 fl2 i5 i6 i7 i8 i9 i10 i11 hm12; exact absurd hm12 (Nat.not_lt_zero _)
    | succ n4 ih13 =>
      intro x3_1 M2 hI2 hFm2 fl2 i5 i6 i7 i8 i9 i10 i11 hm12
      have hq0 : True := trivial
      refine s_iload_n kx_224_2 rfl ?_
      refine s_bipush (v := 8) kx_224_3 (by decide) ?_
      refine s_icmp_ge (t := 100) kx_224_5 (by decide) (fun hc14 => ?_) (fun hc14 => ?_)
      · refine s_aload_n kx_224_100 rfl ?_
        refine r_getR (k := 63) (f := 53) (k2 := 97) kx_224_101 kp_224_174 (tk_63 hT) kf_12_53 (by decide) (rq_63_53 hI2) ?_
        refine s_iload_n kx_224_104 rfl ?_
        refine s_aload_n kx_224_105 rfl ?_
        refine r_getR (k := 63) (f := 53) (k2 := 97) kx_224_106 kp_224_174 (tk_63 hT) kf_12_53 (by decide) (rq_63_53 hI2) ?_
        refine s_iload_n kx_224_109 rfl ?_
        refine r_ald (k := 97) kx_224_110 (tk_97 hT) ⟨by omega, by omega⟩ (rg_97 hI2) (fun v15 v15e v15a v15b => ?_)
        refine r_ast (k := 97) kx_224_111 (tk_97 hT) ⟨by omega, by omega⟩ hI2 (ru_97 (by omega) (by omega)) (fun M16 hI16 u16 => ?_)
        have hFm16 := hFm2.up u16 rfl
        refine s_iconst (v := 0) kx_224_112 (by decide) ?_
        refine s_istore_n kx_224_113 km_224_3 rfl ?_
        have key19 : ∀ n20 : Nat, ∀ (x3_17 : Int), ∀ M18 : cM, Rng M18 → Fr gR2_224_m M M18 → Fr gR2_224_l114 M16 M18 → (0 ≤ x3_17) → (x3_17 ≤ 40) → (CPl to from_ M x3_17 M18) → (2147483647 - x3_17).toNat < n20 → cP k_P xs Ln (d + 0) 224 114 [(0, rf 63), (1, (0, to)), (2, (0, from_)), (3, (0, x3_17))] [] (T, M18) (qV T M gR2_224_m (fun M1 => CPr to from_ M 8 M1 ∧ zR M1 92 to 8 ∧ zR M1 93 to 8 ∧ CPk to from_ M M1)) := by
          intro n20
          induction n20 with
          | zero => intro x3_17 M18 hI18 hFm18 fl18 i21 i22 i23 hm24; exact absurd hm24 (Nat.not_lt_zero _)
          | succ n20 ih25 =>
            intro x3_17 M18 hI18 hFm18 fl18 i21 i22 i23 hm24
            refine s_iload_n kx_224_114 rfl ?_
            refine s_aload_n kx_224_115 rfl ?_
            refine r_getR (k := 63) (f := 53) (k2 := 97) kx_224_116 kp_224_174 (tk_63 hT) kf_12_53 (by decide) (rq_63_53 hI18) ?_
            refine s_iload_n kx_224_119 rfl ?_
            refine r_ald (k := 97) kx_224_120 (tk_97 hT) ⟨by omega, by omega⟩ (rg_97 hI18) (fun v26 v26e v26a v26b => ?_)
            refine s_icmp_ge (t := 218) kx_224_121 (by decide) (fun hc27 => ?_) (fun hc27 => ?_)
            · exact s_vret kx_224_218 kq_224 ⟨_, rfl, rfl, hI18, hFm18, ⟨(CPr.then i11 (by omega) (fun c hc f => (fl18 c f (by rcases hc with rfl | rfl | rfl | rfl <;> rfl)).trans ((u16.2 c f (by omega)).trans (rfl)))), (zR.le (zR.fr (zR.up i9 u16 (fun e => absurd e (by decide))) fl18 (fun _ => rfl)) (by omega)), (zR.le (zR.fr (zR.up i10 u16 (fun e => absurd e (by decide))) fl18 (fun _ => rfl)) (by omega)), ⟨(fl18 97 _ rfl).trans (u16.1.trans (v15e.symm.trans (fl2 97 _ rfl))), (fun f hf => (fl18 97 f rfl).trans ((u16.2 97 f (by omega)).trans (fl2 97 f rfl))), (fun c hc => ⟨fun k hk => (i23 c hc).1 k (by have h9 := (fl2 97 (from_).toNat rfl).symm.trans v15e; have h8 := v26e; have h7 := ((fl18 97 (from_).toNat rfl).trans (u16.2 97 _ (by omega))).symm.trans h8; omega), (i23 c hc).2⟩)⟩⟩⟩
            · refine s_aload_n kx_224_124 rfl ?_
              refine r_getR (k := 63) (f := 54) (k2 := 98) kx_224_125 kp_224_177 (tk_63 hT) kf_12_54 (by decide) (rq_63_54 hI18) ?_
              refine s_bipush (v := 40) kx_224_128 (by decide) ?_
              refine s_iload_n kx_224_130 rfl ?_
              refine r_mul kx_224_131 ⟨by omega, by omega⟩ ?_
              refine s_iload_n kx_224_132 rfl ?_
              refine r_add kx_224_133 ⟨by omega, by omega⟩ ?_
              refine s_aload_n kx_224_134 rfl ?_
              refine r_getR (k := 63) (f := 54) (k2 := 98) kx_224_135 kp_224_177 (tk_63 hT) kf_12_54 (by decide) (rq_63_54 hI18) ?_
              refine s_bipush (v := 40) kx_224_138 (by decide) ?_
              refine s_iload_n kx_224_140 rfl ?_
              refine r_mul kx_224_141 ⟨by omega, by omega⟩ ?_
              refine s_iload_n kx_224_142 rfl ?_
              refine r_add kx_224_143 ⟨by omega, by omega⟩ ?_
              refine r_aldU (k := 98) kx_224_144 (tk_98 hT) ⟨by omega, by omega⟩ (fun v28 v28e => ?_)
              refine r_ast (k := 98) kx_224_145 (tk_98 hT) ⟨by omega, by omega⟩ hI18 ru_98 (fun M29 hI29 u29 => ?_)
              have hFm29 := hFm18.up u29 rfl
              have hFl11429 := fl18.up u29 rfl
              refine s_aload_n kx_224_146 rfl ?_
              refine r_getR (k := 63) (f := 55) (k2 := 99) kx_224_147 kp_224_180 (tk_63 hT) kf_12_55 (by decide) (rq_63_55 hI29) ?_
              refine s_bipush (v := 40) kx_224_150 (by decide) ?_
              refine s_iload_n kx_224_152 rfl ?_
              refine r_mul kx_224_153 ⟨by omega, by omega⟩ ?_
              refine s_iload_n kx_224_154 rfl ?_
              refine r_add kx_224_155 ⟨by omega, by omega⟩ ?_
              refine s_aload_n kx_224_156 rfl ?_
              refine r_getR (k := 63) (f := 55) (k2 := 99) kx_224_157 kp_224_180 (tk_63 hT) kf_12_55 (by decide) (rq_63_55 hI29) ?_
              refine s_bipush (v := 40) kx_224_160 (by decide) ?_
              refine s_iload_n kx_224_162 rfl ?_
              refine r_mul kx_224_163 ⟨by omega, by omega⟩ ?_
              refine s_iload_n kx_224_164 rfl ?_
              refine r_add kx_224_165 ⟨by omega, by omega⟩ ?_
              refine r_aldU (k := 99) kx_224_166 (tk_99 hT) ⟨by omega, by omega⟩ (fun v30 v30e => ?_)
              refine r_ast (k := 99) kx_224_167 (tk_99 hT) ⟨by omega, by omega⟩ hI29 ru_99 (fun M31 hI31 u31 => ?_)
              have hFm31 := hFm29.up u31 rfl
              have hFl11431 := hFl11429.up u31 rfl
              refine s_aload_n kx_224_168 rfl ?_
              refine r_getR (k := 63) (f := 56) (k2 := 100) kx_224_169 kp_224_183 (tk_63 hT) kf_12_56 (by decide) (rq_63_56 hI31) ?_
              refine s_bipush (v := 40) kx_224_172 (by decide) ?_
              refine s_iload_n kx_224_174 rfl ?_
              refine r_mul kx_224_175 ⟨by omega, by omega⟩ ?_
              refine s_iload_n kx_224_176 rfl ?_
              refine r_add kx_224_177 ⟨by omega, by omega⟩ ?_
              refine s_aload_n kx_224_178 rfl ?_
              refine r_getR (k := 63) (f := 56) (k2 := 100) kx_224_179 kp_224_183 (tk_63 hT) kf_12_56 (by decide) (rq_63_56 hI31) ?_
              refine s_bipush (v := 40) kx_224_182 (by decide) ?_
              refine s_iload_n kx_224_184 rfl ?_
              refine r_mul kx_224_185 ⟨by omega, by omega⟩ ?_
              refine s_iload_n kx_224_186 rfl ?_
              refine r_add kx_224_187 ⟨by omega, by omega⟩ ?_
              refine r_aldU (k := 100) kx_224_188 (tk_100 hT) ⟨by omega, by omega⟩ (fun v32 v32e => ?_)
              refine r_ast (k := 100) kx_224_189 (tk_100 hT) ⟨by omega, by omega⟩ hI31 ru_100 (fun M33 hI33 u33 => ?_)
              have hFm33 := hFm31.up u33 rfl
              have hFl11433 := hFl11431.up u33 rfl
              refine s_aload_n kx_224_190 rfl ?_
              refine r_getR (k := 63) (f := 57) (k2 := 101) kx_224_191 kp_224_186 (tk_63 hT) kf_12_57 (by decide) (rq_63_57 hI33) ?_
              refine s_bipush (v := 40) kx_224_194 (by decide) ?_
              refine s_iload_n kx_224_196 rfl ?_
              refine r_mul kx_224_197 ⟨by omega, by omega⟩ ?_
              refine s_iload_n kx_224_198 rfl ?_
              refine r_add kx_224_199 ⟨by omega, by omega⟩ ?_
              refine s_aload_n kx_224_200 rfl ?_
              refine r_getR (k := 63) (f := 57) (k2 := 101) kx_224_201 kp_224_186 (tk_63 hT) kf_12_57 (by decide) (rq_63_57 hI33) ?_
              refine s_bipush (v := 40) kx_224_204 (by decide) ?_
              refine s_iload_n kx_224_206 rfl ?_
              refine r_mul kx_224_207 ⟨by omega, by omega⟩ ?_
              refine s_iload_n kx_224_208 rfl ?_
              refine r_add kx_224_209 ⟨by omega, by omega⟩ ?_
              refine r_aldU (k := 101) kx_224_210 (tk_101 hT) ⟨by omega, by omega⟩ (fun v34 v34e => ?_)
              refine r_ast (k := 101) kx_224_211 (tk_101 hT) ⟨by omega, by omega⟩ hI33 ru_101 (fun M35 hI35 u35 => ?_)
              have hFm35 := hFm33.up u35 rfl
              have hFl11435 := hFl11433.up u35 rfl
              refine r_iinc kx_224_212 rfl km_224_3 (by decide) ⟨by omega, by omega⟩ rfl ?_
              refine s_goto (t := 114) kx_224_215 (by decide) ?_
              exact cP.wk (lS1 rfl (lS1 rfl (lS1 rfl (lS1 rfl lS0)))) (ih25 (x3_17 + 1) M35 hI35 hFm35 hFl11435 (by omega) (by omega) (CPl.nx i23 (by omega) (by omega) (by omega) (((u35.2 98 _ (by omega)).trans ((u33.2 98 _ (by omega)).trans ((u31.2 98 _ (by omega)).trans (u29.1)))).trans (v28e).symm) (((u35.2 99 _ (by omega)).trans ((u33.2 99 _ (by omega)).trans (u31.1))).trans ((v30e).symm.trans (u29.2 99 _ (by omega)))) (((u35.2 100 _ (by omega)).trans (u33.1)).trans (((v32e).symm.trans (u31.2 100 _ (by omega))).trans (u29.2 100 _ (by omega)))) ((u35.1).trans ((((v34e).symm.trans (u33.2 101 _ (by omega))).trans (u31.2 101 _ (by omega))).trans (u29.2 101 _ (by omega)))) (fun c hc f hf => (u35.2 c f (by omega)).trans ((u33.2 c f (by omega)).trans ((u31.2 c f (by omega)).trans ((u29.2 c f (by omega)).trans (rfl)))))) (by omega))
        exact cP.wk (lS1 rfl (lS1 rfl (lS1 rfl (lS1 rfl lS0)))) (key19 _ 0 M16 hI16 hFm16 Fr.refl (by omega) (by omega) (fun c hc => ⟨fun k hk => absurd hk (by omega), fun f _ => (u16.2 c f (by omega)).trans ((fl2 c f (by rcases hc with rfl | rfl | rfl | rfl <;> rfl)).trans (rfl))⟩) (Nat.lt_succ_self _))
      · refine s_bipush (v := 8) kx_224_8 (by decide) ?_
        refine s_iload_n kx_224_10 rfl ?_
        refine r_mul kx_224_11 ⟨by omega, by omega⟩ ?_
        refine s_iload_n kx_224_12 rfl ?_
        refine r_add kx_224_13 ⟨by omega, by omega⟩ ?_
        refine s_istore kx_224_14 km_224_4 rfl ?_
        refine s_bipush (v := 8) kx_224_16 (by decide) ?_
        refine s_iload_n kx_224_18 rfl ?_
        refine r_mul kx_224_19 ⟨by omega, by omega⟩ ?_
        refine s_iload_n kx_224_20 rfl ?_
        refine r_add kx_224_21 ⟨by omega, by omega⟩ ?_
        refine s_istore kx_224_22 km_224_5 rfl ?_
        refine s_aload_n kx_224_24 rfl ?_
        refine r_getR (k := 63) (f := 48) (k2 := 92) kx_224_25 kp_224_159 (tk_63 hT) kf_12_48 (by decide) (rq_63_48 hI2) ?_
        refine s_iload kx_224_28 rfl ?_
        refine s_aload_n kx_224_30 rfl ?_
        refine r_getR (k := 63) (f := 48) (k2 := 92) kx_224_31 kp_224_159 (tk_63 hT) kf_12_48 (by decide) (rq_63_48 hI2) ?_
        refine s_iload kx_224_34 rfl ?_
        have hz36 := i7 x3_1 (by omega) (by omega)
        refine r_aldU (k := 92) kx_224_36 (tk_92 hT) ⟨by omega, by omega⟩ (fun v37 v37e => ?_)
        refine r_ast (k := 92) kx_224_37 (tk_92 hT) ⟨by omega, by omega⟩ hI2 (ru_92 (fun _ => by omega)) (fun M38 hI38 u38 => ?_)
        have hFm38 := hFm2.up u38 rfl
        have hFl238 := fl2.up u38 rfl
        refine s_aload_n kx_224_38 rfl ?_
        refine r_getR (k := 63) (f := 49) (k2 := 93) kx_224_39 kp_224_162 (tk_63 hT) kf_12_49 (by decide) (rq_63_49 hI38) ?_
        refine s_iload kx_224_42 rfl ?_
        refine s_aload_n kx_224_44 rfl ?_
        refine r_getR (k := 63) (f := 49) (k2 := 93) kx_224_45 kp_224_162 (tk_63 hT) kf_12_49 (by decide) (rq_63_49 hI38) ?_
        refine s_iload kx_224_48 rfl ?_
        have hz39 := (zR.up i8 u38 (fun e => absurd e (by decide))) x3_1 (by omega) (by omega)
        refine r_aldU (k := 93) kx_224_50 (tk_93 hT) ⟨by omega, by omega⟩ (fun v40 v40e => ?_)
        refine r_ast (k := 93) kx_224_51 (tk_93 hT) ⟨by omega, by omega⟩ hI38 (ru_93 (fun _ => by omega)) (fun M41 hI41 u41 => ?_)
        have hFm41 := hFm38.up u41 rfl
        have hFl241 := hFl238.up u41 rfl
        refine s_aload_n kx_224_52 rfl ?_
        refine r_getR (k := 63) (f := 50) (k2 := 94) kx_224_53 kp_224_165 (tk_63 hT) kf_12_50 (by decide) (rq_63_50 hI41) ?_
        refine s_iload kx_224_56 rfl ?_
        refine s_aload_n kx_224_58 rfl ?_
        refine r_getR (k := 63) (f := 50) (k2 := 94) kx_224_59 kp_224_165 (tk_63 hT) kf_12_50 (by decide) (rq_63_50 hI41) ?_
        refine s_iload kx_224_62 rfl ?_
        refine r_aldU (k := 94) kx_224_64 (tk_94 hT) ⟨by omega, by omega⟩ (fun v42 v42e => ?_)
        refine r_ast (k := 94) kx_224_65 (tk_94 hT) ⟨by omega, by omega⟩ hI41 ru_94 (fun M43 hI43 u43 => ?_)
        have hFm43 := hFm41.up u43 rfl
        have hFl243 := hFl241.up u43 rfl
        refine s_aload_n kx_224_66 rfl ?_
        refine r_getR (k := 63) (f := 51) (k2 := 95) kx_224_67 kp_224_168 (tk_63 hT) kf_12_51 (by decide) (rq_63_51 hI43) ?_
        refine s_iload kx_224_70 rfl ?_
        refine s_aload_n kx_224_72 rfl ?_
        refine r_getR (k := 63) (f := 51) (k2 := 95) kx_224_73 kp_224_168 (tk_63 hT) kf_12_51 (by decide) (rq_63_51 hI43) ?_
        refine s_iload kx_224_76 rfl ?_
        refine r_aldU (k := 95) kx_224_78 (tk_95 hT) ⟨by omega, by omega⟩ (fun v44 v44e => ?_)
        refine r_ast (k := 95) kx_224_79 (tk_95 hT) ⟨by omega, by omega⟩ hI43 ru_95 (fun M45 hI45 u45 => ?_)
        have hFm45 := hFm43.up u45 rfl
        have hFl245 := hFl243.up u45 rfl
        refine s_aload_n kx_224_80 rfl ?_
        refine r_getR (k := 63) (f := 52) (k2 := 96) kx_224_81 kp_224_171 (tk_63 hT) kf_12_52 (by decide) (rq_63_52 hI45) ?_
        refine s_iload kx_224_84 rfl ?_
        refine s_aload_n kx_224_86 rfl ?_
        refine r_getR (k := 63) (f := 52) (k2 := 96) kx_224_87 kp_224_171 (tk_63 hT) kf_12_52 (by decide) (rq_63_52 hI45) ?_
        refine s_iload kx_224_90 rfl ?_
        refine r_aldU (k := 96) kx_224_92 (tk_96 hT) ⟨by omega, by omega⟩ (fun v46 v46e => ?_)
        refine r_ast (k := 96) kx_224_93 (tk_96 hT) ⟨by omega, by omega⟩ hI45 ru_96 (fun M47 hI47 u47 => ?_)
        have hFm47 := hFm45.up u47 rfl
        have hFl247 := hFl245.up u47 rfl
        refine r_iinc kx_224_94 rfl km_224_3 (by decide) ⟨by omega, by omega⟩ rfl ?_
        refine s_goto (t := 2) kx_224_97 (by decide) ?_
        exact cP.wk (lS1 rfl (lS1 rfl (lS1 rfl (lS1 rfl lS0)))) (ih13 (x3_1 + 1) M47 hI47 hFm47 hFl247 (by omega) (by omega) (zR.up (zR.up (zR.up (zR.up (zR.up i7 u38 (fun _ => by omega)) u41 (fun e => absurd e (by decide))) u43 (fun e => absurd e (by decide))) u45 (fun e => absurd e (by decide))) u47 (fun e => absurd e (by decide))) (zR.up (zR.up (zR.up (zR.up (zR.up i8 u38 (fun e => absurd e (by decide))) u41 (fun _ => by omega)) u43 (fun e => absurd e (by decide))) u45 (fun e => absurd e (by decide))) u47 (fun e => absurd e (by decide))) (zR.up (zR.up (zR.up (zR.up (zR.put i9 u38 (by omega)) u41 (fun e => absurd e (by decide))) u43 (fun e => absurd e (by decide))) u45 (fun e => absurd e (by decide))) u47 (fun e => absurd e (by decide))) (zR.up (zR.up (zR.up (zR.put (zR.up i10 u38 (fun e => absurd e (by decide))) u41 (by omega)) u43 (fun e => absurd e (by decide))) u45 (fun e => absurd e (by decide))) u47 (fun e => absurd e (by decide))) (CPr.step i11 (by omega) (by omega) (by omega) (((u47.2 92 _ (by omega)).trans ((u45.2 92 _ (by omega)).trans ((u43.2 92 _ (by omega)).trans ((u41.2 92 _ (by omega)).trans (u38.1))))).trans (v37e).symm) (((u47.2 93 _ (by omega)).trans ((u45.2 93 _ (by omega)).trans ((u43.2 93 _ (by omega)).trans (u41.1)))).trans (((u38.2 93 _ (by omega)).symm.trans v40e)).symm) (((u47.2 94 _ (by omega)).trans ((u45.2 94 _ (by omega)).trans (u43.1))).trans (((u38.2 94 _ (by omega)).symm.trans ((u41.2 94 _ (by omega)).symm.trans v42e))).symm) (((u47.2 95 _ (by omega)).trans (u45.1)).trans (((u38.2 95 _ (by omega)).symm.trans ((u41.2 95 _ (by omega)).symm.trans ((u43.2 95 _ (by omega)).symm.trans v44e)))).symm) (fun f hf => (u47.2 92 f (by omega)).trans ((u45.2 92 f (by omega)).trans ((u43.2 92 f (by omega)).trans ((u41.2 92 f (by omega)).trans (u38.2 92 f (by omega)))))) (fun f hf => (u47.2 93 f (by omega)).trans ((u45.2 93 f (by omega)).trans ((u43.2 93 f (by omega)).trans ((u41.2 93 f (by omega)).trans (u38.2 93 f (by omega)))))) (fun f hf => (u47.2 94 f (by omega)).trans ((u45.2 94 f (by omega)).trans ((u43.2 94 f (by omega)).trans ((u41.2 94 f (by omega)).trans (u38.2 94 f (by omega)))))) (fun f hf => (u47.2 95 f (by omega)).trans ((u45.2 95 f (by omega)).trans ((u43.2 95 f (by omega)).trans ((u41.2 95 f (by omega)).trans (u38.2 95 f (by omega))))))) (by omega))
  exact cP.wk (lS1 rfl (lS1 rfl (lS1 rfl (lS1 rfl lS0)))) (key3 _ 0 M hI hFm Fr.refl (by omega) (by omega) p2 p3 (fun q a b => absurd b (by omega) : zR M 92 to 0) (fun q a b => absurd b (by omega) : zR M 93 to 0) (CPr.zero) (Nat.lt_succ_self _))
def gR_292_l82 : List (Nat × Nat) := [(92, 99999), (93, 99999), (94, 99999), (95, 99999), (96, 99999)]
def gR_292_m : List (Nat × Nat) := [(100, 99999), (101, 99999), (92, 99999), (93, 99999), (94, 99999), (95, 99999), (96, 99999), (97, 99999), (98, 99999), (99, 99999)]
def gR_292_l25 : List (Nat × Nat) := []
def gR_292_l117 : List (Nat × Nat) := []
def gR_292_l136 : List (Nat × Nat) := []
theorem g_292 {xs : Nat → Int} {Ln d : Nat} {T : List cK} {M : cM} (hT : TT T) (hI : Rng M) {n : Int} {D S : cM} (hR : RR D S M) {H : Nat → cM} {hc : Int} (hH : RH D H hc M) {s : Nat → Int} (hs : M 64 = s) (p0 : 0 ≤ n ∧ n ≤ 1600) : cC k_P xs Ln (d + 2) 292 [rf 63, (0, n)] (T, M) (qW T M gR_292_m 0 (fun v M1 => ((v = 1 ∧ pIm D s n = 1 ∧ SLT s M1 (D 0 1) ∧ zR M1 92 1 8 ∧ zR M1 93 1 8 ∧ M1 97 1 = 0) ∨ (v = 0 ∧ pIm D s n = 0)) ∧ RR D S M1 ∧ RH D H hc M1)) := by
  show cP k_P xs Ln (d + 2) 292 0 [(0, rf 63), (1, (0, n))] [] (T, M) _
  have hFm : Fr gR_292_m M M := Fr.refl
  have hD := hR.2.1
  have hDr := hD.rg
  have hSW := hR.2.2.2.2.1
  refine s_iload_n kx_292_0 rfl ?_
  refine s_iconst (v := 1) kx_292_1 (by decide) ?_
  refine s_bipush (v := 9) kx_292_2 (by decide) ?_
  refine s_aload_n kx_292_4 rfl ?_
  refine r_getR (k := 63) (f := 19) (k2 := 69) kx_292_5 kp_292_69 (tk_63 hT) kf_12_19 (by decide) (rq_63_19 hI) ?_
  refine s_aload_n kx_292_8 rfl ?_
  refine r_getI (k := 63) (f := 14) kx_292_9 kp_292_54 (tk_63 hT) kf_12_14 (fun _ => rfl) (rg_63_14 hI) (fun v1 v1e v1a v1b => ?_)
  refine r_ald (k := 69) kx_292_12 (tk_69 hT) ⟨by omega, by omega⟩ (rg_69 hI) (fun v2 v2e v2a v2b => ?_)
  have v2d : D 0 1 = v2 := by have h9 := (hR).1.2.1; rw [v1e] at h9; exact h9.symm.trans v2e
  refine r_mul kx_292_13 ⟨by omega, by omega⟩ ?_
  refine r_add kx_292_14 ⟨by omega, by omega⟩ ?_
  refine s_icmp_eq (t := 20) kx_292_15 (by decide) (fun hc3 => ?_) (fun hc3 => ?_)
  · refine s_bipush (v := 113) kx_292_20 (by decide) ?_
    refine s_istore_n kx_292_22 km_292_2 rfl ?_
    refine s_iconst (v := 0) kx_292_23 (by decide) ?_
    refine s_istore_n kx_292_24 km_292_3 rfl ?_
    have key6 : ∀ n7 : Nat, ∀ (x2_4 x3_5 : Int), (0 ≤ x2_4) → (x2_4 ≤ 250) → (0 ≤ x3_5) → (x3_5 ≤ 72) → (x3_5 ≤ n - 1) → (x2_4 = pCk s (x3_5).toNat) → (2147483647 - x3_5).toNat < n7 → cP k_P xs Ln (d + 2) 292 25 [(0, rf 63), (1, (0, n)), (2, (0, x2_4)), (3, (0, x3_5))] [] (T, M) (qW T M gR_292_m 0 (fun v M1 => ((v = 1 ∧ pIm D s n = 1 ∧ SLT s M1 (D 0 1) ∧ zR M1 92 1 8 ∧ zR M1 93 1 8 ∧ M1 97 1 = 0) ∨ (v = 0 ∧ pIm D s n = 0)) ∧ RR D S M1 ∧ RH D H hc M1)) := by
      intro n7
      induction n7 with
      | zero => intro x2_4 x3_5 i8 i9 i10 i11 i12 i13 hm14; exact absurd hm14 (Nat.not_lt_zero _)
      | succ n7 ih15 =>
        intro x2_4 x3_5 i8 i9 i10 i11 i12 i13 hm14
        refine s_iload_n kx_292_25 rfl ?_
        refine s_iload_n kx_292_26 rfl ?_
        refine s_iconst (v := 1) kx_292_27 (by decide) ?_
        refine r_sub kx_292_28 ⟨by omega, by omega⟩ ?_
        refine s_icmp_ge (t := 53) kx_292_29 (by decide) (fun hc16 => ?_) (fun hc16 => ?_)
        · have hck : x2_4 = pCk s (9 * D 0 1).toNat := by rw [show 9 * D 0 1 = x3_5 by omega]; exact i13
          refine s_aload_n kx_292_53 rfl ?_
          refine r_getR (k := 63) (f := 0) (k2 := 64) kx_292_54 kp_292_7 (tk_63 hT) kf_12_0 (by decide) (rq_63_0 hI) ?_
          refine s_iload_n kx_292_57 rfl ?_
          refine s_iconst (v := 1) kx_292_58 (by decide) ?_
          refine r_sub kx_292_59 ⟨by omega, by omega⟩ ?_
          refine r_ald (k := 64) kx_292_60 (tk_64 hT) ⟨by omega, by omega⟩ (rg_64 hI) (fun v17 v17e v17a v17b => ?_)
          have v17r : s ((n - 1)).toNat = v17 := (congrFun hs ((n - 1)).toNat).symm.trans (v17e)
          have hsl : s (9 * D 0 1).toNat = v17 := (congrArg s (by omega)).trans v17r
          refine s_iload_n kx_292_61 rfl ?_
          refine s_icmp_eq (t := 67) kx_292_62 (by decide) (fun hc18 => ?_) (fun hc18 => ?_)
          · refine s_aload_n kx_292_67 rfl ?_
            refine s_iconst (v := 1) kx_292_68 (by decide) ?_
            refine s_iconst (v := 0) kx_292_69 (by decide) ?_
            refine s_callV2 (k := 63) (s1 := 3) (s2 := 0) (as := [(0, 0), (0, 1)]) (rest := []) kx_292_70 kp_292_452 (Or.inl rfl) rfl (tk_63 hT) ki_224 kcl_224 rfl rfl (by decide) (g2_224 (d := d + 1) (to := 1) (from_ := 0) hT hI (by omega) (by omega) (zR_of92 hI (by omega)) (zR_of93 hI (by omega)) (by omega)) (kV (fun M20 hI20 fr20 v19p => ?_))
            have hFm20 := hFm.call fr20 rfl
            have hc21 := RR.cpy hR fr20 rfl (fun x hx q hq => (v19p.1 x hx).2 q (by omega)) v19p.2.2.2 (by omega)
            have hc22 := RH.hi hH hD.1 (fr20 63 58 rfl) (fr20 63 59 rfl) (fun x hx f hf => (v19p.1 x hx).2 f (by omega)) (fun f hf => v19p.2.2.2.2.1 f (by omega)) (fun x hx f hf => (v19p.2.2.2.2.2 x hx).2 f (by omega))
            refine s_aload_n kx_292_73 rfl ?_
            refine r_getR (k := 63) (f := 53) (k2 := 97) kx_292_74 kp_292_174 (tk_63 hT) kf_12_53 (by decide) (rq_63_53 hI20) ?_
            refine s_iconst (v := 1) kx_292_77 (by decide) ?_
            refine s_iconst (v := 0) kx_292_78 (by decide) ?_
            refine r_ast (k := 97) kx_292_79 (tk_97 hT) ⟨by decide, by decide⟩ hI20 (ru_97 (by omega) (by omega)) (fun M23 hI23 u23 => ?_)
            have hFm23 := hFm20.up u23 rfl
            have hc24 := (RR.u97 hc21 u23 (by omega))
            refine s_iconst (v := 0) kx_292_80 (by decide) ?_
            refine s_istore_n kx_292_81 km_292_3 rfl ?_
            have key27 : ∀ n28 : Nat, ∀ (x3_25 : Int), ∀ M26 : cM, Rng M26 → Fr gR_292_m M M26 → Fr gR_292_l82 M23 M26 → (0 ≤ x3_25) → (x3_25 ≤ 8) → (zR M26 92 1 8) → (zR M26 93 1 8) → (RR D S M26) → (RH D H hc M26) → (x3_25 ≤ D 0 1) → (pAll (cPe D s) (x3_25).toNat = 1) → (SLT s M26 x3_25) → (2147483647 - x3_25).toNat < n28 → cP k_P xs Ln (d + 2) 292 82 [(0, rf 63), (3, (0, x3_25))] [] (T, M26) (qW T M gR_292_m 0 (fun v M1 => ((v = 1 ∧ pIm D s n = 1 ∧ SLT s M1 (D 0 1) ∧ zR M1 92 1 8 ∧ zR M1 93 1 8 ∧ M1 97 1 = 0) ∨ (v = 0 ∧ pIm D s n = 0)) ∧ RR D S M1 ∧ RH D H hc M1)) := by
              intro n28
              induction n28 with
              | zero => intro x3_25 M26 hI26 hFm26 fl26 i29 i30 i31 i32 i33 i34 i35 i36 i37 hm38; exact absurd hm38 (Nat.not_lt_zero _)
              | succ n28 ih39 =>
                intro x3_25 M26 hI26 hFm26 fl26 i29 i30 i31 i32 i33 i34 i35 i36 i37 hm38
                refine s_iload_n kx_292_82 rfl ?_
                refine s_aload_n kx_292_83 rfl ?_
                refine r_getR (k := 63) (f := 19) (k2 := 69) kx_292_84 kp_292_69 (tk_63 hT) kf_12_19 (by decide) (rq_63_19 hI26) ?_
                refine s_aload_n kx_292_87 rfl ?_
                refine r_getK (k := 63) (f := 14) kx_292_88 kp_292_54 (tk_63 hT) kf_12_14 (fun _ => rfl) ((fl26 63 14 rfl).trans ((u23.2 63 14 (by omega)).trans ((fr20 63 14 rfl).trans v1e))) ?_
                refine r_aldK (k := 69) kx_292_91 (tk_69 hT) ⟨by omega, by omega⟩ ((fl26 69 _ rfl).trans ((u23.2 69 _ (by omega)).trans ((fr20 69 _ rfl).trans v2e))) ?_
                refine s_icmp_ge (t := 115) kx_292_92 (by decide) (fun hc40 => ?_) (fun hc40 => ?_)
                · have hpe : pAll (cPe D s) (D 0 1).toNat = 1 := by rw [show D 0 1 = x3_25 by omega]; exact i36
                  have hslt : SLT s M26 (D 0 1) := by rw [show D 0 1 = x3_25 by omega]; exact i37
                  refine s_iconst (v := 0) kx_292_115 (by decide) ?_
                  refine s_istore_n kx_292_116 km_292_3 rfl ?_
                  have key42 : ∀ n43 : Nat, ∀ (x3_41 : Int), (0 ≤ x3_41) → (x3_41 ≤ 8) → (x3_41 ≤ D 0 0) → (pAll (cFl D s) (x3_41).toNat = 1) → (2147483647 - x3_41).toNat < n43 → cP k_P xs Ln (d + 2) 292 117 [(0, rf 63), (3, (0, x3_41))] [] (T, M26) (qW T M gR_292_m 0 (fun v M1 => ((v = 1 ∧ pIm D s n = 1 ∧ SLT s M1 (D 0 1) ∧ zR M1 92 1 8 ∧ zR M1 93 1 8 ∧ M1 97 1 = 0) ∨ (v = 0 ∧ pIm D s n = 0)) ∧ RR D S M1 ∧ RH D H hc M1)) := by
                    intro n43
                    induction n43 with
                    | zero => intro x3_41 i44 i45 i46 i47 hm48; exact absurd hm48 (Nat.not_lt_zero _)
                    | succ n43 ih49 =>
                      intro x3_41 i44 i45 i46 i47 hm48
                      refine s_iload_n kx_292_117 rfl ?_
                      refine s_aload_n kx_292_118 rfl ?_
                      refine r_getR (k := 63) (f := 15) (k2 := 65) kx_292_119 kp_292_57 (tk_63 hT) kf_12_15 (by decide) (rq_63_15 hI26) ?_
                      refine s_aload_n kx_292_122 rfl ?_
                      refine r_getK (k := 63) (f := 14) kx_292_123 kp_292_54 (tk_63 hT) kf_12_14 (fun _ => rfl) ((fl26 63 14 rfl).trans ((u23.2 63 14 (by omega)).trans ((fr20 63 14 rfl).trans v1e))) ?_
                      refine r_ald (k := 65) kx_292_126 (tk_65 hT) ⟨by omega, by omega⟩ (rg_65 hI26) (fun v50 v50e v50a v50b => ?_)
                      have v50d : D 0 0 = v50 := by have h9 := (i33).1.1; rw [((fl26 63 14 rfl).trans ((u23.2 63 14 (by omega)).trans ((fr20 63 14 rfl).trans v1e)))] at h9; exact h9.symm.trans v50e
                      refine s_icmp_ge (t := 212) kx_292_127 (by decide) (fun hc51 => ?_) (fun hc51 => ?_)
                      · refine s_iconst (v := 1) kx_292_212 (by decide) ?_
                        exact s_iret kx_292_213 (Or.inr ⟨kq_292, by omega⟩) ⟨_, _, rfl, rfl, hI26, hFm26, ⟨(Or.inl ⟨rfl, by have h9 : pAll (cFl D s) (D 0 0).toNat = 1 := (by rw [show D 0 0 = x3_41 by omega]; exact i47); unfold pIm; exact if_pos (by omega), hslt, i31, i32, (((fl26 97 _ rfl).trans u23.1) : M26 97 1 = 0)⟩), i33, i34⟩⟩
                      · refine s_iconst (v := 0) kx_292_130 (by decide) ?_
                        refine s_istore kx_292_131 km_292_4 rfl ?_
                        refine s_iconst (v := 0) kx_292_133 (by decide) ?_
                        refine s_istore kx_292_134 km_292_5 rfl ?_
                        have key54 : ∀ n55 : Nat, ∀ (x4_52 x5_53 : Int), (0 ≤ x4_52) → (x4_52 ≤ 72) → (0 ≤ x5_53) → (x5_53 ≤ 8) → (x4_52 ≤ 9 * x5_53) → (x5_53 ≤ D 0 1) → (x4_52 = pFw D s x3_41 (x5_53).toNat) → (2147483647 - x5_53).toNat < n55 → cP k_P xs Ln (d + 2) 292 136 [(0, rf 63), (3, (0, x3_41)), (4, (0, x4_52)), (5, (0, x5_53))] [] (T, M26) (qW T M gR_292_m 0 (fun v M1 => ((v = 1 ∧ pIm D s n = 1 ∧ SLT s M1 (D 0 1) ∧ zR M1 92 1 8 ∧ zR M1 93 1 8 ∧ M1 97 1 = 0) ∨ (v = 0 ∧ pIm D s n = 0)) ∧ RR D S M1 ∧ RH D H hc M1)) := by
                          intro n55
                          induction n55 with
                          | zero => intro x4_52 x5_53 i56 i57 i58 i59 i60 i61 i62 hm63; exact absurd hm63 (Nat.not_lt_zero _)
                          | succ n55 ih64 =>
                            intro x4_52 x5_53 i56 i57 i58 i59 i60 i61 i62 hm63
                            refine s_iload kx_292_136 rfl ?_
                            refine s_aload_n kx_292_138 rfl ?_
                            refine r_getR (k := 63) (f := 19) (k2 := 69) kx_292_139 kp_292_69 (tk_63 hT) kf_12_19 (by decide) (rq_63_19 hI26) ?_
                            refine s_aload_n kx_292_142 rfl ?_
                            refine r_getK (k := 63) (f := 14) kx_292_143 kp_292_54 (tk_63 hT) kf_12_14 (fun _ => rfl) ((fl26 63 14 rfl).trans ((u23.2 63 14 (by omega)).trans ((fr20 63 14 rfl).trans v1e))) ?_
                            refine r_aldK (k := 69) kx_292_146 (tk_69 hT) ⟨by omega, by omega⟩ ((fl26 69 _ rfl).trans ((u23.2 69 _ (by omega)).trans ((fr20 69 _ rfl).trans v2e))) ?_
                            refine s_icmp_ge (t := 185) kx_292_147 (by decide) (fun hc65 => ?_) (fun hc65 => ?_)
                            · have hpw : x4_52 = pFw D s x3_41 (D 0 1).toNat := by rw [show D 0 1 = x5_53 by omega]; exact i62
                              have hcl : cFl D s x3_41 = if pFw D s x3_41 (D 0 1).toNat ≤ D 3 (x3_41).toNat then 1 else 0 := rfl
                              refine s_iload kx_292_185 rfl ?_
                              refine s_aload_n kx_292_187 rfl ?_
                              refine r_getR (k := 63) (f := 17) (k2 := 67) kx_292_188 kp_292_63 (tk_63 hT) kf_12_17 (by decide) (rq_63_17 hI26) ?_
                              refine s_bipush (v := 8) kx_292_191 (by decide) ?_
                              refine s_aload_n kx_292_193 rfl ?_
                              refine r_getK (k := 63) (f := 14) kx_292_194 kp_292_54 (tk_63 hT) kf_12_14 (fun _ => rfl) ((fl26 63 14 rfl).trans ((u23.2 63 14 (by omega)).trans ((fr20 63 14 rfl).trans v1e))) ?_
                              refine r_mul kx_292_197 ⟨by omega, by omega⟩ ?_
                              refine s_iload_n kx_292_198 rfl ?_
                              refine r_add kx_292_199 ⟨by omega, by omega⟩ ?_
                              refine r_aldU (k := 67) kx_292_200 (tk_67 hT) ⟨by omega, by omega⟩ (fun v66 v66e => ?_)
                              have hb67 := ((fl26 63 14 rfl).trans ((u23.2 63 14 (by omega)).trans ((fr20 63 14 rfl).trans v1e)))
                              have v66d := (RR.fl i33 (p := x3_41) ⟨by omega, by omega⟩ (by omega)).symm.trans v66e
                              refine s_icmp_le (t := 206) kx_292_201 (by decide) (fun hc68 => ?_) (fun hc68 => ?_)
                              · refine r_iinc kx_292_206 rfl km_292_3 (by decide) ⟨by omega, by omega⟩ rfl ?_
                                refine s_goto (t := 117) kx_292_209 (by decide) ?_
                                exact cP.wk (lS1 rfl (lS1 rfl lS0)) (ih49 (x3_41 + 1) (by omega) (by omega) (by omega) (pAll_S i47 (by omega) (by rw [hcl, if_pos (by omega)])) (by omega))
                              · refine s_iconst (v := 0) kx_292_204 (by decide) ?_
                                exact s_iret kx_292_205 (Or.inr ⟨kq_292, by omega⟩) ⟨_, _, rfl, rfl, hI26, hFm26, ⟨(Or.inr ⟨rfl, by have h9 := pAll_0 (c := cFl D s) (x := x3_41) (by omega) (by rw [hcl, if_neg (by omega)]; decide) (D 0 0).toNat (by omega); unfold pIm; exact if_neg (by omega)⟩), i33, i34⟩⟩
                            · refine s_iload kx_292_150 rfl ?_
                              refine s_aload_n kx_292_152 rfl ?_
                              refine r_getR (k := 63) (f := 49) (k2 := 93) kx_292_153 kp_292_162 (tk_63 hT) kf_12_49 (by decide) (rq_63_49 hI26) ?_
                              refine s_bipush (v := 8) kx_292_156 (by decide) ?_
                              refine s_iload kx_292_158 rfl ?_
                              refine r_add kx_292_160 ⟨by omega, by omega⟩ ?_
                              refine r_aldU (k := 93) kx_292_161 (tk_93 hT) ⟨by omega, by omega⟩ (fun v69 v69e => ?_)
                              have v69s : s (9 * x5_53 + 1).toNat = v69 := (hslt x5_53 (by omega) (by omega)).2.1.symm.trans v69e
                              refine s_iload_n kx_292_162 rfl ?_
                              refine s_icmp_ne (t := 175) kx_292_163 (by decide) (fun hc70 => ?_) (fun hc70 => ?_)
                              · refine s_iconst (v := 0) kx_292_175 (by decide) ?_
                                refine r_add kx_292_176 ⟨by omega, by omega⟩ ?_
                                refine s_istore kx_292_177 km_292_4 rfl ?_
                                refine r_iinc kx_292_179 rfl km_292_5 (by decide) ⟨by omega, by omega⟩ rfl ?_
                                refine s_goto (t := 136) kx_292_182 (by decide) ?_
                                exact cP.wk (lS1 rfl (lS1 rfl (lS1 rfl (lS1 rfl lS0)))) (ih64 (x4_52 + 0) (x5_53 + 1) (by omega) (by omega) (by omega) (by omega) (by omega) (by omega) (pFw_S i62 (by omega) (Or.inr ⟨by omega, rfl⟩)) (by omega))
                              · refine s_aload_n kx_292_166 rfl ?_
                                refine s_iload kx_292_167 rfl ?_
                                refine s_callV2 (k := 63) (s1 := 2) (s2 := 1) (as := [(0, x5_53)]) (rest := [(0, x4_52)]) kx_292_169 kp_292_484 (Or.inl rfl) rfl (tk_63 hT) ki_237 kcl_237 rfl rfl (by decide) (g_237 (d := d + 1) (c := x5_53) hT hI26 i33 (by omega) (by omega)) (kF (fun v71 v71p => ?_))
                                have hc72 := i33
                                refine s_goto (t := 176) kx_292_172 (by decide) ?_
                                refine r_add kx_292_176 ⟨by omega, by omega⟩ ?_
                                refine s_istore kx_292_177 km_292_4 rfl ?_
                                refine r_iinc kx_292_179 rfl km_292_5 (by decide) ⟨by omega, by omega⟩ rfl ?_
                                refine s_goto (t := 136) kx_292_182 (by decide) ?_
                                exact cP.wk (lS1 rfl (lS1 rfl (lS1 rfl (lS1 rfl lS0)))) (ih64 (x4_52 + v71) (x5_53 + 1) (by omega) (by omega) (by omega) (by omega) (by omega) (by omega) (pFw_S i62 (by omega) (Or.inl ⟨by omega, by omega⟩)) (by omega))
                        exact cP.wk (lS1 rfl (lS1 rfl (lS1 rfl (lS1 rfl lS0)))) (key54 _ 0 0 (by omega) (by omega) (by omega) (by omega) (by omega) (by omega) rfl (Nat.lt_succ_self _))
                  exact cP.wk (lS1 rfl (lS1 rfl lS0)) (key42 _ 0 (by omega) (by omega) (by omega) rfl (Nat.lt_succ_self _))
                · refine s_aload_n kx_292_95 rfl ?_
                  refine s_iload_n kx_292_96 rfl ?_
                  refine s_bipush (v := 9) kx_292_97 (by decide) ?_
                  refine s_iload_n kx_292_99 rfl ?_
                  refine r_mul kx_292_100 ⟨by omega, by omega⟩ ?_
                  refine s_callV2 (k := 63) (s1 := 3) (s2 := 0) (as := [(0, (9 * x3_25)), (0, x3_25)]) (rest := []) kx_292_101 kp_292_618 (Or.inl rfl) rfl (tk_63 hT) ki_291 kcl_291 rfl rfl (by decide) (g_291 (d := d) (p := x3_25) (at_ := (9 * x3_25)) hT hI26 i33 i34 ((funext fun i => ((fl26 64 _ rfl).trans ((u23.2 64 _ (by omega)).trans (fr20 64 _ rfl)))).trans hs) (by omega) (by omega) (by omega) (by omega)) (kW (fun v73 M74 hI74 fr74 v73p => ?_))
                  have hFm74 := hFm26.call fr74 rfl
                  have hFl8274 := fl26.call fr74 rfl
                  have hpp := v73p.1
                  have hc75 := v73p.2.1
                  refine s_if_ne (t := 109) kx_292_104 (by decide) (fun hc76 => ?_) (fun hc76 => ?_)
                  · refine r_iinc kx_292_109 rfl km_292_3 (by decide) ⟨by omega, by omega⟩ rfl ?_
                    refine s_goto (t := 82) kx_292_112 (by decide) ?_
                    exact cP.wk (lS1 rfl (lS1 rfl lS0)) (ih39 (x3_25 + 1) M74 hI74 hFm74 hFl8274 (by omega) (by omega) (((v73p.1).resolve_right (by omega)).2.2.1 i31) (((v73p.1).resolve_right (by omega)).2.2.2 i32) hc75 v73p.2.2.1 (by omega) (pAll_S i36 (by omega) (by omega)) (SLT.nx i37 (by omega) v73p.2.2.2.1 v73p.2.2.2.2) (by omega))
                  · refine s_iconst (v := 0) kx_292_107 (by decide) ?_
                    exact s_iret kx_292_108 (Or.inr ⟨kq_292, by omega⟩) ⟨_, _, rfl, rfl, hI74, hFm74, ⟨(Or.inr ⟨rfl, by have h9 := pAll_0 (c := cPe D s) (x := x3_25) (by omega) (by omega) (D 0 1).toNat (by omega); unfold pIm; exact if_neg (by omega)⟩), hc75, v73p.2.2.1⟩⟩
            exact cP.wk (lS1 rfl (lS1 rfl lS0)) (key27 _ 0 M23 hI23 hFm23 Fr.refl (by omega) (by omega) (zR.up v19p.2.1 u23 (fun e => absurd e (by decide))) (zR.up v19p.2.2.1 u23 (fun e => absurd e (by decide))) hc24 (RH.up hc22 hD.1 u23 (by omega)) (by omega) rfl (fun q a b => absurd b (by omega)) (Nat.lt_succ_self _))
          · refine s_iconst (v := 0) kx_292_65 (by decide) ?_
            exact s_iret kx_292_66 (Or.inr ⟨kq_292, by omega⟩) ⟨_, _, rfl, rfl, hI, hFm, ⟨(Or.inr ⟨rfl, by unfold pIm; exact if_neg (by omega)⟩), hR, hH⟩⟩
        · refine s_iconst (v := 5) kx_292_32 (by decide) ?_
          refine s_iload_n kx_292_33 rfl ?_
          refine r_mul kx_292_34 ⟨by omega, by omega⟩ ?_
          refine s_aload_n kx_292_35 rfl ?_
          refine r_getR (k := 63) (f := 0) (k2 := 64) kx_292_36 kp_292_7 (tk_63 hT) kf_12_0 (by decide) (rq_63_0 hI) ?_
          refine s_iload_n kx_292_39 rfl ?_
          refine r_ald (k := 64) kx_292_40 (tk_64 hT) ⟨by omega, by omega⟩ (rg_64 hI) (fun v77 v77e v77a v77b => ?_)
          have v77r : s (x3_5).toNat = v77 := (congrFun hs (x3_5).toNat).symm.trans (v77e)
          refine r_add kx_292_41 ⟨by omega, by omega⟩ ?_
          refine s_sipush (v := 251) kx_292_42 (by decide) ?_
          refine r_irem kx_292_45 (by omega) (by omega) (by omega) (by omega) ?_
          refine s_istore_n kx_292_46 km_292_2 rfl ?_
          refine r_iinc kx_292_47 rfl km_292_3 (by decide) ⟨by omega, by omega⟩ rfl ?_
          refine s_goto (t := 25) kx_292_50 (by decide) ?_
          exact cP.wk (lS1 rfl (lS1 rfl (lS1 rfl (lS1 rfl lS0)))) (ih15 (((5 * x2_4) + v77) % 251) (x3_5 + 1) (by omega) (by omega) (by omega) (by omega) (by omega) (pCk_S i13 (by omega) v77r) (by omega))
    exact cP.wk (lS1 rfl (lS1 rfl (lS1 rfl (lS1 rfl lS0)))) (key6 _ 113 0 (by omega) (by omega) (by omega) (by omega) (by omega) rfl (Nat.lt_succ_self _))
  · refine s_iconst (v := 0) kx_292_18 (by decide) ?_
    exact s_iret kx_292_19 (Or.inr ⟨kq_292, by omega⟩) ⟨_, _, rfl, rfl, hI, hFm, ⟨(Or.inr ⟨rfl, by unfold pIm; exact if_neg (by omega)⟩), hR, hH⟩⟩
def gR_293_m : List (Nat × Nat) := [(100, 99999), (101, 99999), (63, 1), (63, 59), (91, 99999), (92, 99999), (93, 99999), (94, 99999), (95, 99999), (96, 99999), (97, 99999), (98, 99999), (99, 99999)]
theorem g_293 {xs : Nat → Int} {Ln d : Nat} {T : List cK} {M : cM} (hT : TT T) (hI : Rng M) {D S : cM} (hR : RR D S M) {H : Nat → cM} {hc : Int} (hH : RH D H hc M) {s : Nat → Int} (hs : M 64 = s) : cC k_P xs Ln (d + 3) 293 [rf 63] (T, M) (qW T M gR_293_m 0 (fun v M1 => (((v = 1 ∧ pIm D s (M 63 1) = 1) ∧ RR D (pOz s S (D 0 1)) M1 ∧ RH D H 0 M1) ∨ ((v = 0 ∧ pIm D s (M 63 1) = 0) ∧ RR D S M1 ∧ RH D H hc M1)) ∧ M1 63 1 = 0)) := by
  show cP k_P xs Ln (d + 3) 293 0 [(0, rf 63)] [] (T, M) _
  have hFm : Fr gR_293_m M M := Fr.refl
  have hD := hR.2.1
  have hDr := hD.rg
  have hSW := hR.2.2.2.2.1
  refine s_aload_n kx_293_0 rfl ?_
  refine r_getI (k := 63) (f := 1) kx_293_1 kp_293_13 (tk_63 hT) kf_12_1 (fun _ => rfl) (rg_63_1 hI) (fun v1 v1e v1a v1b => ?_)
  refine s_istore_n kx_293_4 km_293_1 rfl ?_
  refine s_aload_n kx_293_5 rfl ?_
  refine s_iconst (v := 0) kx_293_6 (by decide) ?_
  refine r_put (k := 63) (f := 1) kx_293_7 kp_293_13 (tk_63 hT) kf_12_1 rfl (by decide) (by decide) hI (ru_63_1 (by omega) (by omega)) (fun M2 hI2 u2 => ?_)
  have hFm2 := hFm.up u2 rfl
  have hs0 : ∀ i, 0 ≤ s i ∧ s i ≤ 255 := fun i => by rw [← hs]; exact rg_64 hI
  refine s_aload_n kx_293_10 rfl ?_
  refine s_iload_n kx_293_11 rfl ?_
  refine s_callV2 (k := 63) (s1 := 2) (s2 := 0) (as := [(0, v1)]) (rest := []) kx_293_12 kp_293_621 (Or.inl rfl) rfl (tk_63 hT) ki_292 kcl_292 rfl rfl (by decide) (g_292 (d := d) (n := v1) hT hI2 (RR.up hR u2 (by omega)) (RH.up hH hD.1 u2 (by omega)) ((funext fun i => (u2.2 64 _ (by omega))).trans hs) (by omega)) (kW (fun v3 M4 hI4 fr4 v3p => ?_))
  have hFm4 := hFm2.call fr4 rfl
  have hco := v3p.1
  refine s_if_ne (t := 32) kx_293_15 (by decide) (fun hc5 => ?_) (fun hc5 => ?_)
  · refine s_aload_n kx_293_32 rfl ?_
    refine s_iconst (v := 0) kx_293_33 (by decide) ?_
    refine s_iconst (v := 1) kx_293_34 (by decide) ?_
    refine s_callV2 (k := 63) (s1 := 3) (s2 := 0) (as := [(0, 1), (0, 0)]) (rest := []) kx_293_35 kp_293_452 (Or.inl rfl) rfl (tk_63 hT) ki_224 kcl_224 rfl rfl (by decide) (g2_224 (d := d + 2) (to := 0) (from_ := 1) hT hI4 (by omega) (by omega) ((v3p.1).resolve_right (by omega)).2.2.2.1 ((v3p.1).resolve_right (by omega)).2.2.2.2.1 (by omega)) (kV (fun M7 hI7 fr7 v6p => ?_))
    have hFm7 := hFm4.call fr7 rfl
    have him := pIm_1 (D := D) (s := s) (n := v1) (by omega)
    have hc8 := RR.on v3p.2.1 ((v3p.1).resolve_right (by omega)).2.2.1 him.2.2.1 hs0 ⟨v6p.1, v6p.2.2.2⟩ ((v3p.1).resolve_right (by omega)).2.2.2.2.2 fr7 rfl
    refine s_aload_n kx_293_38 rfl ?_
    refine s_iconst (v := 0) kx_293_39 (by decide) ?_
    refine r_put (k := 63) (f := 59) kx_293_40 kp_293_192 (tk_63 hT) kf_12_59 rfl (by decide) (by decide) hI7 (ru_63_59 (by omega) (by omega)) (fun M9 hI9 u9 => ?_)
    have hFm9 := hFm7.up u9 rfl
    refine s_iconst (v := 1) kx_293_43 (by decide) ?_
    exact s_iret kx_293_44 (Or.inr ⟨kq_293, by omega⟩) ⟨_, _, rfl, rfl, hI9, hFm9, ⟨(Or.inl ⟨(by rw [v1e]; omega), (RR.up hc8 u9 (by omega)), RH.zero (u9.1)⟩), ((u9.2 63 1 (by omega)).trans ((fr7 63 1 rfl).trans ((fr4 63 1 rfl).trans u2.1)))⟩⟩
  · refine s_aload_n kx_293_18 rfl ?_
    refine s_iconst (v := 5) kx_293_19 (by decide) ?_
    refine s_callV2 (k := 63) (s1 := 2) (s2 := 0) (as := [(0, 5)]) (rest := []) kx_293_20 kp_293_255 (Or.inl rfl) rfl (tk_63 hT) ki_218 kcl_218 rfl rfl (by decide) (m_218 (d := d + 2) (kind := 5) hT hI4 (by omega)) (kW (fun v10 M11 hI11 fr11 v10p => ?_))
    have hFm11 := hFm4.call fr11 rfl
    refine s_if_lt (t := 30) kx_293_23 (by decide) (fun hc12 => ?_) (fun hc12 => absurd hc12 (by omega))
    refine s_iconst (v := 0) kx_293_30 (by decide) ?_
    exact s_iret kx_293_31 (Or.inr ⟨kq_293, by omega⟩) ⟨_, _, rfl, rfl, hI11, hFm11, ⟨(Or.inr ⟨(by rw [v1e]; omega), (RR.fr v3p.2.1 fr11 rfl), (RH.fr v3p.2.2 hD.1 fr11 rfl)⟩), ((fr11 63 1 rfl).trans ((fr4 63 1 rfl).trans u2.1))⟩⟩
theorem g_248 {xs : Nat → Int} {Ln d : Nat} {T : List cK} {M : cM} (hT : TT T) (hI : Rng M) {r what : Int} {D S : cM} (hR : RR D S M) : cC k_P xs Ln (d + 3) 248 [rf 63, (0, r), (0, what)] (T, M) (qF T M 0 (fun v => v = pRo D S r what)) := by
  show cP k_P xs Ln (d + 3) 248 0 [(0, rf 63), (1, (0, r)), (2, (0, what))] [] (T, M) _
  have hD := hR.2.1
  have hDr := hD.rg
  have hSW := hR.2.2.2.2.1
  refine s_aload_n kx_248_0 rfl ?_
  refine s_iload_n kx_248_1 rfl ?_
  refine s_callV2 (k := 63) (s1 := 2) (s2 := 0) (as := [(0, r)]) (rest := []) kx_248_2 kp_248_508 (Or.inl rfl) rfl (tk_63 hT) ki_220 kcl_220 rfl rfl (by decide) (g_220 (d := d + 2) (r := r) hT hI hR) (kF (fun v1 v1p => ?_))
  refine s_if_ne (t := 10) kx_248_5 (by decide) (fun hc2 => ?_) (fun hc2 => ?_)
  · replace v1p := v1p.resolve_right (by omega)
    refine s_iconst (v := 0) kx_248_10 (by decide) ?_
    refine s_istore_n kx_248_11 km_248_3 rfl ?_
    refine s_iload_n kx_248_12 rfl ?_
    rcases (by omega : what = 0 ∨ what = 1 ∨ what = 2 ∨ what = 3 ∨ what = 4 ∨ what = 5 ∨ (what < 0 ∨ 5 < what)) with hs3 | hs3 | hs3 | hs3 | hs3 | hs3 | hs3
    · refine s_tsw (t := 52) kx_248_13 (by decide) 0 hs3 (by decide) ?_
      refine s_aload_n kx_248_52 rfl ?_
      refine r_getR (k := 63) (f := 16) (k2 := 66) kx_248_53 kp_248_60 (tk_63 hT) kf_12_16 (by decide) (rq_63_16 hI) ?_
      refine s_bipush (v := 8) kx_248_56 (by decide) ?_
      refine s_aload_n kx_248_58 rfl ?_
      refine r_getI (k := 63) (f := 14) kx_248_59 kp_248_54 (tk_63 hT) kf_12_14 (fun _ => rfl) (rg_63_14 hI) (fun v4 v4e v4a v4b => ?_)
      refine r_mul kx_248_62 ⟨by omega, by omega⟩ ?_
      refine s_iload_n kx_248_63 rfl ?_
      refine r_add kx_248_64 ⟨by omega, by omega⟩ ?_
      refine r_aldU (k := 66) kx_248_65 (tk_66 hT) ⟨by omega, by omega⟩ (fun v5 v5e => ?_)
      have hb6 := v4e
      have v5d := (RR.dr hR (p := r) ⟨by omega, by omega⟩ (by omega)).symm.trans v5e
      exact s_iret kx_248_66 (Or.inl kq_248) ⟨_, rfl, rfl, (by unfold pRo; (repeat' split) <;> omega)⟩
    · refine s_tsw (t := 67) kx_248_13 (by decide) 1 hs3 (by decide) ?_
      refine s_aload_n kx_248_67 rfl ?_
      refine r_getR (k := 63) (f := 17) (k2 := 67) kx_248_68 kp_248_63 (tk_63 hT) kf_12_17 (by decide) (rq_63_17 hI) ?_
      refine s_bipush (v := 8) kx_248_71 (by decide) ?_
      refine s_aload_n kx_248_73 rfl ?_
      refine r_getI (k := 63) (f := 14) kx_248_74 kp_248_54 (tk_63 hT) kf_12_14 (fun _ => rfl) (rg_63_14 hI) (fun v7 v7e v7a v7b => ?_)
      refine r_mul kx_248_77 ⟨by omega, by omega⟩ ?_
      refine s_iload_n kx_248_78 rfl ?_
      refine r_add kx_248_79 ⟨by omega, by omega⟩ ?_
      refine r_aldU (k := 67) kx_248_80 (tk_67 hT) ⟨by omega, by omega⟩ (fun v8 v8e => ?_)
      have hb9 := v7e
      have v8d := (RR.fl hR (p := r) ⟨by omega, by omega⟩ (by omega)).symm.trans v8e
      exact s_iret kx_248_81 (Or.inl kq_248) ⟨_, rfl, rfl, (by unfold pRo; (repeat' split) <;> omega)⟩
    · refine s_tsw (t := 82) kx_248_13 (by decide) 2 hs3 (by decide) ?_
      refine s_aload_n kx_248_82 rfl ?_
      refine s_iload_n kx_248_83 rfl ?_
      refine s_iconst (v := (-1)) kx_248_84 (by decide) ?_
      refine s_callV2 (k := 63) (s1 := 3) (s2 := 0) (as := [(0, (-1)), (0, r)]) (rest := []) kx_248_85 kp_248_497 (Or.inl rfl) rfl (tk_63 hT) ki_240 kcl_240 rfl rfl (by decide) (g_240 (d := d + 1) (r := r) (but := (-1)) hT hI hR) (kF (fun v10 v10p => ?_))
      exact s_iret kx_248_88 (Or.inl kq_248) ⟨_, rfl, rfl, (by unfold pRo; (repeat' split) <;> omega)⟩
    · refine s_tsw (t := 89) kx_248_13 (by decide) 3 hs3 (by decide) ?_
      refine s_iconst (v := 0) kx_248_89 (by decide) ?_
      refine s_istore kx_248_90 km_248_4 rfl ?_
      have key13 : ∀ n14 : Nat, ∀ (x3_11 x4_12 : Int), (0 ≤ x4_12) → (x4_12 ≤ 8) → (x4_12 ≤ D 0 1) → (x3_11 = pBs (cIn S 0 r) (x4_12).toNat) → (2147483647 - x4_12).toNat < n14 → cP k_P xs Ln (d + 3) 248 92 [(0, rf 63), (1, (0, r)), (3, (0, x3_11)), (4, (0, x4_12))] [] (T, M) (qF T M 0 (fun v => v = pRo D S r what)) := by
        intro n14
        induction n14 with
        | zero => intro x3_11 x4_12 i15 i16 i17 i18 hm19; exact absurd hm19 (Nat.not_lt_zero _)
        | succ n14 ih20 =>
          intro x3_11 x4_12 i15 i16 i17 i18 hm19
          refine s_iload kx_248_92 rfl ?_
          refine s_aload_n kx_248_94 rfl ?_
          refine r_getR (k := 63) (f := 19) (k2 := 69) kx_248_95 kp_248_69 (tk_63 hT) kf_12_19 (by decide) (rq_63_19 hI) ?_
          refine s_aload_n kx_248_98 rfl ?_
          refine r_getI (k := 63) (f := 14) kx_248_99 kp_248_54 (tk_63 hT) kf_12_14 (fun _ => rfl) (rg_63_14 hI) (fun v21 v21e v21a v21b => ?_)
          refine r_ald (k := 69) kx_248_102 (tk_69 hT) ⟨by omega, by omega⟩ (rg_69 hI) (fun v22 v22e v22a v22b => ?_)
          have v22d : D 0 1 = v22 := by have h9 := (hR).1.2.1; rw [v21e] at h9; exact h9.symm.trans v22e
          refine s_icmp_ge (t := 134) kx_248_103 (by decide) (fun hc23 => ?_) (fun hc23 => ?_)
          · refine s_iload_n kx_248_134 rfl ?_
            exact s_iret kx_248_135 (Or.inl kq_248) ⟨_, rfl, rfl, (by have h9 : x3_11 = pBs (cIn S 0 r) (D 0 1).toNat := (by rw [show D 0 1 = x4_12 by omega]; exact i18); unfold pRo; (repeat' split) <;> omega)⟩
          · refine s_iload_n kx_248_106 rfl ?_
            refine s_aload_n kx_248_107 rfl ?_
            refine r_getR (k := 63) (f := 48) (k2 := 92) kx_248_108 kp_248_159 (tk_63 hT) kf_12_48 (by decide) (rq_63_48 hI) ?_
            refine s_iload kx_248_111 rfl ?_
            refine r_ald (k := 92) kx_248_113 (tk_92 hT) ⟨by omega, by omega⟩ (rg_92 hI (by omega)) (fun v24 v24e v24a v24b => ?_)
            have v24d := (RR.rm hR (p := x4_12) ⟨by omega, by omega⟩ (by omega)).symm.trans v24e
            have v24w := (hR).2.2.2.2.1.at (p := x4_12) ⟨by omega, by omega⟩
            refine s_iload_n kx_248_114 rfl ?_
            refine s_icmp_ne (t := 125) kx_248_115 (by decide) (fun hc25 => ?_) (fun hc25 => ?_)
            · refine s_iconst (v := 0) kx_248_125 (by decide) ?_
              refine s_ior (z := (tbO x3_11 0)) kx_248_126 rfl ?_
              refine s_istore_n kx_248_127 km_248_3 rfl ?_
              refine r_iinc kx_248_128 rfl km_248_4 (by decide) ⟨by omega, by omega⟩ rfl ?_
              refine s_goto (t := 92) kx_248_131 (by decide) ?_
              exact cP.wk (lS1 rfl (lS1 rfl (lS1 rfl (lS1 rfl lS0)))) (ih20 (tbO x3_11 0) (x4_12 + 1) (by omega) (by omega) (by omega) (pBs_S i18 (by omega) (Or.inr ⟨by unfold cIn; rw [if_neg (by omega)]; decide, rfl⟩)) (by omega))
            · refine s_iconst (v := 1) kx_248_118 (by decide) ?_
              refine s_iload kx_248_119 rfl ?_
              refine s_ishl (z := (tbL 1 x4_12)) kx_248_121 rfl ?_
              refine s_goto (t := 126) kx_248_122 (by decide) ?_
              refine s_ior (z := (tbO x3_11 (tbL 1 x4_12))) kx_248_126 rfl ?_
              refine s_istore_n kx_248_127 km_248_3 rfl ?_
              refine r_iinc kx_248_128 rfl km_248_4 (by decide) ⟨by omega, by omega⟩ rfl ?_
              refine s_goto (t := 92) kx_248_131 (by decide) ?_
              exact cP.wk (lS1 rfl (lS1 rfl (lS1 rfl (lS1 rfl lS0)))) (ih20 (tbO x3_11 (tbL 1 x4_12)) (x4_12 + 1) (by omega) (by omega) (by omega) (pBs_S i18 (by omega) (Or.inl ⟨by unfold cIn; exact if_pos (by omega), rfl⟩)) (by omega))
      exact cP.wk (lS1 rfl (lS1 rfl (lS1 rfl (lS1 rfl lS0)))) (key13 _ 0 0 (by omega) (by omega) (by omega) rfl (Nat.lt_succ_self _))
    · refine s_tsw (t := 136) kx_248_13 (by decide) 4 hs3 (by decide) ?_
      refine s_iconst (v := 0) kx_248_136 (by decide) ?_
      refine s_istore kx_248_137 km_248_4 rfl ?_
      have key31 : ∀ n32 : Nat, ∀ (x3_29 x4_30 : Int), (0 ≤ x4_30) → (x4_30 ≤ 8) → (x4_30 ≤ D 0 1) → (x3_29 = pBs (cIn S 1 r) (x4_30).toNat) → (2147483647 - x4_30).toNat < n32 → cP k_P xs Ln (d + 3) 248 139 [(0, rf 63), (1, (0, r)), (3, (0, x3_29)), (4, (0, x4_30))] [] (T, M) (qF T M 0 (fun v => v = pRo D S r what)) := by
        intro n32
        induction n32 with
        | zero => intro x3_29 x4_30 i33 i34 i35 i36 hm37; exact absurd hm37 (Nat.not_lt_zero _)
        | succ n32 ih38 =>
          intro x3_29 x4_30 i33 i34 i35 i36 hm37
          refine s_iload kx_248_139 rfl ?_
          refine s_aload_n kx_248_141 rfl ?_
          refine r_getR (k := 63) (f := 19) (k2 := 69) kx_248_142 kp_248_69 (tk_63 hT) kf_12_19 (by decide) (rq_63_19 hI) ?_
          refine s_aload_n kx_248_145 rfl ?_
          refine r_getI (k := 63) (f := 14) kx_248_146 kp_248_54 (tk_63 hT) kf_12_14 (fun _ => rfl) (rg_63_14 hI) (fun v39 v39e v39a v39b => ?_)
          refine r_ald (k := 69) kx_248_149 (tk_69 hT) ⟨by omega, by omega⟩ (rg_69 hI) (fun v40 v40e v40a v40b => ?_)
          have v40d : D 0 1 = v40 := by have h9 := (hR).1.2.1; rw [v39e] at h9; exact h9.symm.trans v40e
          refine s_icmp_ge (t := 181) kx_248_150 (by decide) (fun hc41 => ?_) (fun hc41 => ?_)
          · refine s_iload_n kx_248_181 rfl ?_
            exact s_iret kx_248_182 (Or.inl kq_248) ⟨_, rfl, rfl, (by have h9 : x3_29 = pBs (cIn S 1 r) (D 0 1).toNat := (by rw [show D 0 1 = x4_30 by omega]; exact i36); unfold pRo; (repeat' split) <;> omega)⟩
          · refine s_iload_n kx_248_153 rfl ?_
            refine s_aload_n kx_248_154 rfl ?_
            refine r_getR (k := 63) (f := 49) (k2 := 93) kx_248_155 kp_248_162 (tk_63 hT) kf_12_49 (by decide) (rq_63_49 hI) ?_
            refine s_iload kx_248_158 rfl ?_
            refine r_ald (k := 93) kx_248_160 (tk_93 hT) ⟨by omega, by omega⟩ (rg_93 hI (by omega)) (fun v42 v42e v42a v42b => ?_)
            have v42d := (RR.ch hR (p := x4_30) ⟨by omega, by omega⟩ (by omega)).symm.trans v42e
            have v42w := (hR).2.2.2.2.1.at (p := x4_30) ⟨by omega, by omega⟩
            refine s_iload_n kx_248_161 rfl ?_
            refine s_icmp_ne (t := 172) kx_248_162 (by decide) (fun hc43 => ?_) (fun hc43 => ?_)
            · refine s_iconst (v := 0) kx_248_172 (by decide) ?_
              refine s_ior (z := (tbO x3_29 0)) kx_248_173 rfl ?_
              refine s_istore_n kx_248_174 km_248_3 rfl ?_
              refine r_iinc kx_248_175 rfl km_248_4 (by decide) ⟨by omega, by omega⟩ rfl ?_
              refine s_goto (t := 139) kx_248_178 (by decide) ?_
              exact cP.wk (lS1 rfl (lS1 rfl (lS1 rfl (lS1 rfl lS0)))) (ih38 (tbO x3_29 0) (x4_30 + 1) (by omega) (by omega) (by omega) (pBs_S i36 (by omega) (Or.inr ⟨by unfold cIn; rw [if_neg (by omega)]; decide, rfl⟩)) (by omega))
            · refine s_iconst (v := 1) kx_248_165 (by decide) ?_
              refine s_iload kx_248_166 rfl ?_
              refine s_ishl (z := (tbL 1 x4_30)) kx_248_168 rfl ?_
              refine s_goto (t := 173) kx_248_169 (by decide) ?_
              refine s_ior (z := (tbO x3_29 (tbL 1 x4_30))) kx_248_173 rfl ?_
              refine s_istore_n kx_248_174 km_248_3 rfl ?_
              refine r_iinc kx_248_175 rfl km_248_4 (by decide) ⟨by omega, by omega⟩ rfl ?_
              refine s_goto (t := 139) kx_248_178 (by decide) ?_
              exact cP.wk (lS1 rfl (lS1 rfl (lS1 rfl (lS1 rfl lS0)))) (ih38 (tbO x3_29 (tbL 1 x4_30)) (x4_30 + 1) (by omega) (by omega) (by omega) (pBs_S i36 (by omega) (Or.inl ⟨by unfold cIn; exact if_pos (by omega), rfl⟩)) (by omega))
      exact cP.wk (lS1 rfl (lS1 rfl (lS1 rfl (lS1 rfl lS0)))) (key31 _ 0 0 (by omega) (by omega) (by omega) rfl (Nat.lt_succ_self _))
    · refine s_tsw (t := 183) kx_248_13 (by decide) 5 hs3 (by decide) ?_
      refine s_iconst (v := 0) kx_248_183 (by decide) ?_
      refine s_istore kx_248_184 km_248_4 rfl ?_
      have key49 : ∀ n50 : Nat, ∀ (x3_47 x4_48 : Int), (0 ≤ x4_48) → (x4_48 ≤ 8) → (x4_48 ≤ D 0 1) → (x3_47 = pBs (cSt D S r) (x4_48).toNat) → (2147483647 - x4_48).toNat < n50 → cP k_P xs Ln (d + 3) 248 186 [(0, rf 63), (1, (0, r)), (3, (0, x3_47)), (4, (0, x4_48))] [] (T, M) (qF T M 0 (fun v => v = pRo D S r what)) := by
        intro n50
        induction n50 with
        | zero => intro x3_47 x4_48 i51 i52 i53 i54 hm55; exact absurd hm55 (Nat.not_lt_zero _)
        | succ n50 ih56 =>
          intro x3_47 x4_48 i51 i52 i53 i54 hm55
          refine s_iload kx_248_186 rfl ?_
          refine s_aload_n kx_248_188 rfl ?_
          refine r_getR (k := 63) (f := 19) (k2 := 69) kx_248_189 kp_248_69 (tk_63 hT) kf_12_19 (by decide) (rq_63_19 hI) ?_
          refine s_aload_n kx_248_192 rfl ?_
          refine r_getI (k := 63) (f := 14) kx_248_193 kp_248_54 (tk_63 hT) kf_12_14 (fun _ => rfl) (rg_63_14 hI) (fun v57 v57e v57a v57b => ?_)
          refine r_ald (k := 69) kx_248_196 (tk_69 hT) ⟨by omega, by omega⟩ (rg_69 hI) (fun v58 v58e v58a v58b => ?_)
          have v58d : D 0 1 = v58 := by have h9 := (hR).1.2.1; rw [v57e] at h9; exact h9.symm.trans v58e
          refine s_icmp_ge (t := 237) kx_248_197 (by decide) (fun hc59 => ?_) (fun hc59 => ?_)
          · refine s_iload_n kx_248_237 rfl ?_
            exact s_iret kx_248_238 (Or.inl kq_248) ⟨_, rfl, rfl, (by have h9 : x3_47 = pBs (cSt D S r) (D 0 1).toNat := (by rw [show D 0 1 = x4_48 by omega]; exact i54); unfold pRo; (repeat' split) <;> omega)⟩
          · refine s_iload_n kx_248_200 rfl ?_
            refine s_aload_n kx_248_201 rfl ?_
            refine r_getR (k := 63) (f := 48) (k2 := 92) kx_248_202 kp_248_159 (tk_63 hT) kf_12_48 (by decide) (rq_63_48 hI) ?_
            refine s_iload kx_248_205 rfl ?_
            refine r_ald (k := 92) kx_248_207 (tk_92 hT) ⟨by omega, by omega⟩ (rg_92 hI (by omega)) (fun v60 v60e v60a v60b => ?_)
            have v60d := (RR.rm hR (p := x4_48) ⟨by omega, by omega⟩ (by omega)).symm.trans v60e
            have v60w := (hR).2.2.2.2.1.at (p := x4_48) ⟨by omega, by omega⟩
            refine s_iload_n kx_248_208 rfl ?_
            refine s_icmp_ne (t := 228) kx_248_209 (by decide) (fun hc61 => ?_) (fun hc61 => ?_)
            · refine s_iconst (v := 0) kx_248_228 (by decide) ?_
              refine s_ior (z := (tbO x3_47 0)) kx_248_229 rfl ?_
              refine s_istore_n kx_248_230 km_248_3 rfl ?_
              refine r_iinc kx_248_231 rfl km_248_4 (by decide) ⟨by omega, by omega⟩ rfl ?_
              refine s_goto (t := 186) kx_248_234 (by decide) ?_
              exact cP.wk (lS1 rfl (lS1 rfl (lS1 rfl (lS1 rfl lS0)))) (ih56 (tbO x3_47 0) (x4_48 + 1) (by omega) (by omega) (by omega) (pBs_S i54 (by omega) (Or.inr ⟨by unfold cSt; rw [if_neg (by omega)]; decide, rfl⟩)) (by omega))
            · refine s_aload_n kx_248_212 rfl ?_
              refine s_iload kx_248_213 rfl ?_
              refine s_callV2 (k := 63) (s1 := 2) (s2 := 1) (as := [(0, x4_48)]) (rest := [(0, x3_47)]) kx_248_215 kp_248_503 (Or.inl rfl) rfl (tk_63 hT) ki_244 kcl_244 rfl rfl (by decide) (g_244 (d := d) (p := x4_48) hT hI hR (by omega) (by omega)) (kF (fun v63 v63p => ?_))
              refine s_if_eq (t := 228) kx_248_218 (by decide) (fun hc64 => ?_) (fun hc64 => ?_)
              · replace v63p := v63p.resolve_left (by omega)
                refine s_iconst (v := 0) kx_248_228 (by decide) ?_
                refine s_ior (z := (tbO x3_47 0)) kx_248_229 rfl ?_
                refine s_istore_n kx_248_230 km_248_3 rfl ?_
                refine r_iinc kx_248_231 rfl km_248_4 (by decide) ⟨by omega, by omega⟩ rfl ?_
                refine s_goto (t := 186) kx_248_234 (by decide) ?_
                exact cP.wk (lS1 rfl (lS1 rfl (lS1 rfl (lS1 rfl lS0)))) (ih56 (tbO x3_47 0) (x4_48 + 1) (by omega) (by omega) (by omega) (pBs_S i54 (by omega) (Or.inr ⟨by unfold cSt; rw [if_neg (by omega)]; decide, rfl⟩)) (by omega))
              · replace v63p := v63p.resolve_right (by omega)
                refine s_iconst (v := 1) kx_248_221 (by decide) ?_
                refine s_iload kx_248_222 rfl ?_
                refine s_ishl (z := (tbL 1 x4_48)) kx_248_224 rfl ?_
                refine s_goto (t := 229) kx_248_225 (by decide) ?_
                refine s_ior (z := (tbO x3_47 (tbL 1 x4_48))) kx_248_229 rfl ?_
                refine s_istore_n kx_248_230 km_248_3 rfl ?_
                refine r_iinc kx_248_231 rfl km_248_4 (by decide) ⟨by omega, by omega⟩ rfl ?_
                refine s_goto (t := 186) kx_248_234 (by decide) ?_
                exact cP.wk (lS1 rfl (lS1 rfl (lS1 rfl (lS1 rfl lS0)))) (ih56 (tbO x3_47 (tbL 1 x4_48)) (x4_48 + 1) (by omega) (by omega) (by omega) (pBs_S i54 (by omega) (Or.inl ⟨by unfold cSt; exact if_pos (by omega), rfl⟩)) (by omega))
      exact cP.wk (lS1 rfl (lS1 rfl (lS1 rfl (lS1 rfl lS0)))) (key49 _ 0 0 (by omega) (by omega) (by omega) rfl (Nat.lt_succ_self _))
    · refine s_tswD (t := 239) kx_248_13 (by decide) hs3 (by decide) ?_
      refine s_iconst (v := (-1)) kx_248_239 (by decide) ?_
      exact s_iret kx_248_240 (Or.inl kq_248) ⟨_, rfl, rfl, (by unfold pRo; (repeat' split) <;> omega)⟩
  · replace v1p := v1p.resolve_left (by omega)
    refine s_iconst (v := (-1)) kx_248_8 (by decide) ?_
    exact s_iret kx_248_9 (Or.inl kq_248) ⟨_, rfl, rfl, (by unfold pRo; (repeat' split) <;> omega)⟩
theorem g_251 {xs : Nat → Int} {Ln d : Nat} {T : List cK} {M : cM} (hT : TT T) (hI : Rng M) {c r : Int} {D S : cM} (hR : RR D S M) : cC k_P xs Ln (d + 4) 251 [rf 63, (0, c), (0, r)] (T, M) (qF T M 0 (fun v => v = pFi D S c r)) := by
  show cP k_P xs Ln (d + 4) 251 0 [(0, rf 63), (1, (0, c)), (2, (0, r))] [] (T, M) _
  have hD := hR.2.1
  have hDr := hD.rg
  have hSW := hR.2.2.2.2.1
  refine s_aload_n kx_251_0 rfl ?_
  refine s_iload_n kx_251_1 rfl ?_
  refine s_callV2 (k := 63) (s1 := 2) (s2 := 0) (as := [(0, c)]) (rest := []) kx_251_2 kp_251_514 (Or.inl rfl) rfl (tk_63 hT) ki_221 kcl_221 rfl rfl (by decide) (g_221 (d := d + 3) (p := c) hT hI hR) (kF (fun v1 v1p => ?_))
  refine s_if_eq (t := 26) kx_251_5 (by decide) (fun hc2 => ?_) (fun hc2 => ?_)
  · replace v1p := v1p.resolve_left (by omega)
    refine s_iconst (v := (-1)) kx_251_26 (by decide) ?_
    refine s_goto (t := 44) kx_251_27 (by decide) ?_
    exact s_iret kx_251_44 (Or.inl kq_251) ⟨_, rfl, rfl, (by unfold pFi; (repeat' split) <;> omega)⟩
  · replace v1p := v1p.resolve_right (by omega)
    refine s_aload_n kx_251_8 rfl ?_
    refine s_iload_n kx_251_9 rfl ?_
    refine s_callV2 (k := 63) (s1 := 2) (s2 := 0) (as := [(0, r)]) (rest := []) kx_251_10 kp_251_508 (Or.inl rfl) rfl (tk_63 hT) ki_220 kcl_220 rfl rfl (by decide) (g_220 (d := d + 3) (r := r) hT hI hR) (kF (fun v3 v3p => ?_))
    refine s_if_eq (t := 26) kx_251_13 (by decide) (fun hc4 => ?_) (fun hc4 => ?_)
    · replace v3p := v3p.resolve_left (by omega)
      refine s_iconst (v := (-1)) kx_251_26 (by decide) ?_
      refine s_goto (t := 44) kx_251_27 (by decide) ?_
      exact s_iret kx_251_44 (Or.inl kq_251) ⟨_, rfl, rfl, (by unfold pFi; (repeat' split) <;> omega)⟩
    · replace v3p := v3p.resolve_right (by omega)
      refine s_aload_n kx_251_16 rfl ?_
      refine r_getR (k := 63) (f := 49) (k2 := 93) kx_251_17 kp_251_162 (tk_63 hT) kf_12_49 (by decide) (rq_63_49 hI) ?_
      refine s_iload_n kx_251_20 rfl ?_
      refine r_ald (k := 93) kx_251_21 (tk_93 hT) ⟨by omega, by omega⟩ (rg_93 hI (by omega)) (fun v5 v5e v5a v5b => ?_)
      have v5d := (RR.ch hR (p := c) ⟨by omega, by omega⟩ (by omega)).symm.trans v5e
      have v5w := (hR).2.2.2.2.1.at (p := c) ⟨by omega, by omega⟩
      refine s_iload_n kx_251_22 rfl ?_
      refine s_icmp_ne (t := 30) kx_251_23 (by decide) (fun hc6 => ?_) (fun hc6 => ?_)
      · refine s_aload_n kx_251_30 rfl ?_
        refine s_iload_n kx_251_31 rfl ?_
        refine s_iload_n kx_251_32 rfl ?_
        refine s_callV2 (k := 63) (s1 := 3) (s2 := 0) (as := [(0, r), (0, c)]) (rest := []) kx_251_33 kp_251_517 (Or.inl rfl) rfl (tk_63 hT) ki_242 kcl_242 rfl rfl (by decide) (g_242 (d := d) (c := c) (r := r) hT hI hR (by omega) (by omega) (by omega) (by omega)) (kF (fun v7 v7p => ?_))
        refine s_if_eq (t := 43) kx_251_36 (by decide) (fun hc8 => ?_) (fun hc8 => ?_)
        · replace v7p := v7p.resolve_left (by omega)
          refine s_iconst (v := 0) kx_251_43 (by decide) ?_
          exact s_iret kx_251_44 (Or.inl kq_251) ⟨_, rfl, rfl, (by unfold pFi; (repeat' split) <;> omega)⟩
        · replace v7p := v7p.resolve_right (by omega)
          refine s_iconst (v := 1) kx_251_39 (by decide) ?_
          refine s_goto (t := 44) kx_251_40 (by decide) ?_
          exact s_iret kx_251_44 (Or.inl kq_251) ⟨_, rfl, rfl, (by unfold pFi; (repeat' split) <;> omega)⟩
      · refine s_iconst (v := (-1)) kx_251_26 (by decide) ?_
        refine s_goto (t := 44) kx_251_27 (by decide) ?_
        exact s_iret kx_251_44 (Or.inl kq_251) ⟨_, rfl, rfl, (by unfold pFi; (repeat' split) <;> omega)⟩
