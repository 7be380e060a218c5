def gR_256_m : List (Nat × Nat) := [(63, 60)]
theorem g_256 {xs : Nat → Int} {Ln d : Nat} {T : List cK} {M : cM} (hT : TT T) (hI : Rng M) {of_ : Int} {D S : cM} (hR : RR D S M) (p0 : 1 ≤ of_ ∧ of_ ≤ 2147483647) : cC k_P xs Ln (d + 0) 256 [rf 63, (0, of_)] (T, M) (qW T M gR_256_m 0 (fun v M1 => RR D (pSd S) M1 ∧ v = pDr S of_ ∧ 0 ≤ v ∧ v < of_)) := by
  show cP k_P xs Ln (d + 0) 256 0 [(0, rf 63), (1, (0, of_))] [] (T, M) _
  have hFm : Fr gR_256_m M M := Fr.refl
  have hD := hR.2.1
  have hDr := hD.rg
  have hSW := hR.2.2.2.2.1
  refine s_aload_n kx_256_0 rfl ?_
  refine s_ldc2_w kx_256_1 kp_256_533 ?_
  refine s_aload_n kx_256_4 rfl ?_
  refine r_getI (k := 63) (f := 60) kx_256_5 kp_256_195 (tk_63 hT) kf_12_60 (fun _ => rfl) (rg_63_60 hI) (fun v1 v1e v1a v1b => ?_)
  refine r_lmulE kx_256_8 ⟨by omega, by omega⟩ ?_
  refine s_ldc2_w kx_256_9 kp_256_535 ?_
  refine r_laddE kx_256_12 ⟨by omega, by omega⟩ ?_
  refine s_ldc2_w kx_256_13 kp_256_537 ?_
  refine r_lremE kx_256_16 (by omega) (by omega) (by omega) (by omega) ?_
  have hln : (((1103515245 * v1) + 12345) % 2147483648) = pNx (S 3 0) := by unfold pNx; rw [show S 3 0 = v1 from hR.2.2.2.1.symm.trans v1e]
  have hnr := pNx_r (S 3 0)
  refine r_put (k := 63) (f := 60) kx_256_17 kp_256_195 (tk_63 hT) kf_12_60 rfl (by decide) (by decide) hI (ru_63_60 (by omega) (by omega)) (fun M5 hI5 u5 => ?_)
  have hFm5 := hFm.up u5 rfl
  have hc6 : RR D (pSd S) M5 := by have h9 := (RR.u3 hR u5); rw [hln] at h9; exact h9
  refine s_aload_n kx_256_20 rfl ?_
  refine r_getK (k := 63) (f := 60) kx_256_21 kp_256_195 (tk_63 hT) kf_12_60 (fun _ => rfl) u5.1 ?_
  refine s_ldc2_w kx_256_24 kp_256_539 ?_
  refine r_ldivE kx_256_27 (by omega) (by omega) (by omega) (by omega) ?_
  refine s_iload_n kx_256_28 rfl ?_
  refine s_i2l kx_256_29 ?_
  refine r_lremE kx_256_30 (by omega) (by omega) (by omega) (by omega) ?_
  have hm0 := Int.emod_nonneg ((((1103515245 * v1) + 12345) % 2147483648) / 64) (show of_ ≠ 0 by omega)
  have hm1 := Int.emod_lt_of_pos ((((1103515245 * v1) + 12345) % 2147483648) / 64) (show 0 < of_ by omega)
  refine r_l2iE kx_256_31 (by omega) (by omega) ?_
  exact s_iret kx_256_32 (Or.inl kq_256) ⟨_, _, rfl, rfl, hI5, hFm5, ⟨hc6, by unfold pDr; rw [← hln], Int.emod_nonneg _ (by omega), Int.emod_lt_of_pos _ (by omega)⟩⟩
def gR_258_m : List (Nat × Nat) := [(95, 99999)]
theorem g_258 {xs : Nat → Int} {Ln d : Nat} {T : List cK} {M : cM} (hT : TT T) (hI : Rng M) {p n : Int} {D S : cM} (hR : RR D S M) {H : Nat → cM} {hc : Int} (hH : RH D H hc M) (p0 : 0 ≤ p ∧ p ≤ 7) (p1 : 0 ≤ n ∧ n ≤ 1059) (p2 : p < D 0 1) : cC k_P xs Ln (d + 0) 258 [rf 63, (0, p), (0, n)] (T, M) (qV T M gR_258_m (fun M1 => RR D (pSp S p n) M1 ∧ RH D H hc M1)) := by
  show cP k_P xs Ln (d + 0) 258 0 [(0, rf 63), (1, (0, p)), (2, (0, n))] [] (T, M) _
  have hFm : Fr gR_258_m M M := Fr.refl
  have hD := hR.2.1
  have hDr := hD.rg
  have hSW := hR.2.2.2.2.1
  refine s_aload_n kx_258_0 rfl ?_
  refine r_getR (k := 63) (f := 51) (k2 := 95) kx_258_1 kp_258_168 (tk_63 hT) kf_12_51 (by decide) (rq_63_51 hI) ?_
  refine s_iload_n kx_258_4 rfl ?_
  refine s_aload_n kx_258_5 rfl ?_
  refine r_getR (k := 63) (f := 51) (k2 := 95) kx_258_6 kp_258_168 (tk_63 hT) kf_12_51 (by decide) (rq_63_51 hI) ?_
  refine s_iload_n kx_258_9 rfl ?_
  refine r_aldU (k := 95) kx_258_10 (tk_95 hT) ⟨by omega, by omega⟩ (fun v1 v1e => ?_)
  have v1d := (RR.cl hR (p := p) ⟨by omega, by omega⟩ (by omega)).symm.trans v1e
  have v1w := (hR).2.2.2.2.1.at (p := p) ⟨by omega, by omega⟩
  have v1i : 0 ≤ v1 ∧ v1 ≤ 99999 := by omega
  refine s_ldc_w kx_258_11 kp_258_541 ?_
  refine s_iload_n kx_258_14 rfl ?_
  refine r_sub kx_258_15 ⟨by omega, by omega⟩ ?_
  refine s_icmp_le (t := 25) kx_258_16 (by decide) (fun hc2 => ?_) (fun hc2 => ?_)
  · refine s_aload_n kx_258_25 rfl ?_
    refine r_getR (k := 63) (f := 51) (k2 := 95) kx_258_26 kp_258_168 (tk_63 hT) kf_12_51 (by decide) (rq_63_51 hI) ?_
    refine s_iload_n kx_258_29 rfl ?_
    refine r_aldK (k := 95) kx_258_30 (tk_95 hT) ⟨by omega, by omega⟩ v1e ?_
    refine s_iload_n kx_258_31 rfl ?_
    refine r_add kx_258_32 ⟨by omega, by omega⟩ ?_
    refine r_ast (k := 95) kx_258_33 (tk_95 hT) ⟨by omega, by omega⟩ hI ru_95 (fun M3 hI3 u3 => ?_)
    have hFm3 := hFm.up u3 rfl
    have hc4 := (RR.u4 hR u3 (p := p) ⟨by omega, by omega⟩ (by omega) ⟨by omega, by omega⟩)
    have hc5 := (RH.up hH hD.1 u3 (by omega))
    exact s_vret kx_258_34 kq_258 ⟨_, rfl, rfl, hI3, hFm3, ⟨(by unfold pSp; rw [← show ((v1 + n) : Int) = (if S 4 p.toNat + n < 99999 then S 4 p.toNat + n else 99999) by split <;> omega]; exact hc4), hc5⟩⟩
  · refine s_ldc_w kx_258_19 kp_258_541 ?_
    refine s_goto (t := 33) kx_258_22 (by decide) ?_
    refine r_ast (k := 95) kx_258_33 (tk_95 hT) ⟨by omega, by omega⟩ hI ru_95 (fun M6 hI6 u6 => ?_)
    have hFm6 := hFm.up u6 rfl
    have hc7 := (RR.u4 hR u6 (p := p) ⟨by omega, by omega⟩ (by omega) ⟨by omega, by omega⟩)
    have hc8 := (RH.up hH hD.1 u6 (by omega))
    exact s_vret kx_258_34 kq_258 ⟨_, rfl, rfl, hI6, hFm6, ⟨(by unfold pSp; rw [← show (99999 : Int) = (if S 4 p.toNat + n < 99999 then S 4 p.toNat + n else 99999) by split <;> omega]; exact hc7), hc8⟩⟩
def gR_257_l14 : List (Nat × Nat) := [(100, 99999), (101, 99999), (98, 99999), (99, 99999)]
def gR_257_m : List (Nat × Nat) := [(100, 99999), (101, 99999), (97, 99999), (98, 99999), (99, 99999)]
theorem g_257 {xs : Nat → Int} {Ln d : Nat} {T : List cK} {M : cM} (hT : TT T) (hI : Rng M) {whose by_ r minutes : Int} {D S : cM} (hR : RR D S M) {H : Nat → cM} {hc : Int} (hH : RH D H hc M) (p0 : 0 ≤ whose ∧ whose ≤ 7) (p1 : 0 ≤ by_ ∧ by_ ≤ 7) (p2 : 0 ≤ r ∧ r ≤ 7) (p3 : 0 ≤ minutes ∧ minutes ≤ 1059) : cC k_P xs Ln (d + 0) 257 [rf 63, (0, whose), (0, by_), (0, r), (0, minutes)] (T, M) (qV T M gR_257_m (fun M1 => RR D (pKp S (((((((minutes * 8) + r) * 8) + by_) * 8) + whose))) M1 ∧ RH D H hc M1)) := by
  show cP k_P xs Ln (d + 0) 257 0 [(0, rf 63), (1, (0, whose)), (2, (0, by_)), (3, (0, r)), (4, (0, minutes))] [] (T, M) _
  have hFm : Fr gR_257_m M M := Fr.refl
  have hD := hR.2.1
  have hDr := hD.rg
  have hSW := hR.2.2.2.2.1
  refine s_aload_n kx_257_0 rfl ?_
  refine r_getR (k := 63) (f := 53) (k2 := 97) kx_257_1 kp_257_174 (tk_63 hT) kf_12_53 (by decide) (rq_63_53 hI) ?_
  refine s_iconst (v := 0) kx_257_4 (by decide) ?_
  refine r_ald (k := 97) kx_257_5 (tk_97 hT) ⟨by decide, by decide⟩ (rg_97 hI) (fun v1 v1e v1a v1b => ?_)
  have v1k : v1 = S 5 0 := v1e.symm.trans hR.k.1
  refine s_bipush (v := 40) kx_257_6 (by decide) ?_
  refine s_icmp_ne (t := 101) kx_257_8 (by decide) (fun hc2 => ?_) (fun hc2 => ?_)
  · refine s_aload_n kx_257_101 rfl ?_
    refine r_getR (k := 63) (f := 53) (k2 := 97) kx_257_102 kp_257_174 (tk_63 hT) kf_12_53 (by decide) (rq_63_53 hI) ?_
    refine s_iconst (v := 0) kx_257_105 (by decide) ?_
    refine r_aldK (k := 97) kx_257_106 (tk_97 hT) ⟨by decide, by decide⟩ v1e ?_
    refine s_istore kx_257_107 km_257_5 rfl ?_
    refine s_aload_n kx_257_109 rfl ?_
    refine r_getR (k := 63) (f := 54) (k2 := 98) kx_257_110 kp_257_177 (tk_63 hT) kf_12_54 (by decide) (rq_63_54 hI) ?_
    refine s_iload kx_257_113 rfl ?_
    refine s_iload_n kx_257_115 rfl ?_
    refine r_ast (k := 98) kx_257_116 (tk_98 hT) ⟨by omega, by omega⟩ hI ru_98 (fun M3 hI3 u3 => ?_)
    have hFm3 := hFm.up u3 rfl
    refine s_aload_n kx_257_117 rfl ?_
    refine r_getR (k := 63) (f := 55) (k2 := 99) kx_257_118 kp_257_180 (tk_63 hT) kf_12_55 (by decide) (rq_63_55 hI3) ?_
    refine s_iload kx_257_121 rfl ?_
    refine s_iload_n kx_257_123 rfl ?_
    refine r_ast (k := 99) kx_257_124 (tk_99 hT) ⟨by omega, by omega⟩ hI3 ru_99 (fun M4 hI4 u4 => ?_)
    have hFm4 := hFm3.up u4 rfl
    refine s_aload_n kx_257_125 rfl ?_
    refine r_getR (k := 63) (f := 56) (k2 := 100) kx_257_126 kp_257_183 (tk_63 hT) kf_12_56 (by decide) (rq_63_56 hI4) ?_
    refine s_iload kx_257_129 rfl ?_
    refine s_iload_n kx_257_131 rfl ?_
    refine r_ast (k := 100) kx_257_132 (tk_100 hT) ⟨by omega, by omega⟩ hI4 ru_100 (fun M5 hI5 u5 => ?_)
    have hFm5 := hFm4.up u5 rfl
    refine s_aload_n kx_257_133 rfl ?_
    refine r_getR (k := 63) (f := 57) (k2 := 101) kx_257_134 kp_257_186 (tk_63 hT) kf_12_57 (by decide) (rq_63_57 hI5) ?_
    refine s_iload kx_257_137 rfl ?_
    refine s_iload kx_257_139 rfl ?_
    refine r_ast (k := 101) kx_257_141 (tk_101 hT) ⟨by omega, by omega⟩ hI5 ru_101 (fun M6 hI6 u6 => ?_)
    have hFm6 := hFm5.up u6 rfl
    refine s_aload_n kx_257_142 rfl ?_
    refine r_getR (k := 63) (f := 53) (k2 := 97) kx_257_143 kp_257_174 (tk_63 hT) kf_12_53 (by decide) (rq_63_53 hI6) ?_
    refine s_iconst (v := 0) kx_257_146 (by decide) ?_
    refine s_dup2 kx_257_147 rfl rfl ?_
    refine r_aldK (k := 97) kx_257_148 (tk_97 hT) ⟨by decide, by decide⟩ ((u6.2 97 _ (by omega)).trans ((u5.2 97 _ (by omega)).trans ((u4.2 97 _ (by omega)).trans ((u3.2 97 _ (by omega)).trans v1e)))) ?_
    refine s_iconst (v := 1) kx_257_149 (by decide) ?_
    refine r_add kx_257_150 ⟨by omega, by omega⟩ ?_
    refine r_ast (k := 97) kx_257_151 (tk_97 hT) ⟨by decide, by decide⟩ hI6 (ru_97 (by omega) (by omega)) (fun M7 hI7 u7 => ?_)
    have hFm7 := hFm6.up u7 rfl
    exact s_vret kx_257_152 kq_257 ⟨_, rfl, rfl, hI7, hFm7, ⟨RR0.kp (RR0.up (RR0.up (RR0.up (RR0.up (RR0.up hR.o u3 (by omega)) u4 (by omega)) u5 (by omega)) u6 (by omega)) u7 (by omega)) (KX.kp hR.k ⟨by omega, by omega⟩ ⟨by omega, by omega⟩ ⟨by omega, by omega⟩ (by rw [if_pos (by omega)]; exact u7.1.trans (by omega)) ⟨(by rw [if_pos (by omega)]; exact (congrArg (M7 98) (by omega)).trans ((u7.2 98 _ (by omega)).trans ((u6.2 98 _ (by omega)).trans ((u5.2 98 _ (by omega)).trans ((u4.2 98 _ (by omega)).trans (u3.1)))))), (by rw [if_pos (by omega)]; exact (congrArg (M7 99) (by omega)).trans ((u7.2 99 _ (by omega)).trans ((u6.2 99 _ (by omega)).trans ((u5.2 99 _ (by omega)).trans (u4.1))))), (by rw [if_pos (by omega)]; exact (congrArg (M7 100) (by omega)).trans ((u7.2 100 _ (by omega)).trans ((u6.2 100 _ (by omega)).trans (u5.1)))), (by rw [if_pos (by omega)]; exact (congrArg (M7 101) (by omega)).trans ((u7.2 101 _ (by omega)).trans (u6.1)))⟩ (fun _ c hc k hk => (u7.2 c k (by omega)).trans ((u6.2 c k (by omega)).trans ((u5.2 c k (by omega)).trans ((u4.2 c k (by omega)).trans ((u3.2 c k (by omega)).trans (rfl)))))) (fun z => absurd z (by omega))), (RH.up (RH.up (RH.up (RH.up (RH.up hH hD.1 u3 (by omega)) hD.1 u4 (by omega)) hD.1 u5 (by omega)) hD.1 u6 (by omega)) hD.1 u7 (by omega))⟩⟩
  · refine s_iconst (v := 0) kx_257_11 (by decide) ?_
    refine s_istore kx_257_12 km_257_5 rfl ?_
    have key10 : ∀ n11 : Nat, ∀ (x5_8 : Int), ∀ M9 : cM, Rng M9 → Fr gR_257_m M M9 → Fr gR_257_l14 M M9 → (0 ≤ x5_8) → (x5_8 ≤ 39) → (RH D H hc M9) → (SHF M x5_8 M9) → (2147483647 - x5_8).toNat < n11 → cP k_P xs Ln (d + 0) 257 14 [(0, rf 63), (1, (0, whose)), (2, (0, by_)), (3, (0, r)), (4, (0, minutes)), (5, (0, x5_8))] [] (T, M9) (qV T M gR_257_m (fun M1 => RR D (pKp S (((((((minutes * 8) + r) * 8) + by_) * 8) + whose))) M1 ∧ RH D H hc M1)) := by
      intro n11
      induction n11 with
      | zero => intro x5_8 M9 hI9 hFm9 fl9 i12 i13 i14 i15 hm16; exact absurd hm16 (Nat.not_lt_zero _)
      | succ n11 ih17 =>
        intro x5_8 M9 hI9 hFm9 fl9 i12 i13 i14 i15 hm16
        refine s_iload kx_257_14 rfl ?_
        refine s_bipush (v := 39) kx_257_16 (by decide) ?_
        refine s_icmp_ge (t := 91) kx_257_18 (by decide) (fun hc18 => ?_) (fun hc18 => ?_)
        · refine s_aload_n kx_257_91 rfl ?_
          refine r_getR (k := 63) (f := 53) (k2 := 97) kx_257_92 kp_257_174 (tk_63 hT) kf_12_53 (by decide) (rq_63_53 hI9) ?_
          refine s_iconst (v := 0) kx_257_95 (by decide) ?_
          refine s_dup2 kx_257_96 rfl rfl ?_
          refine r_aldK (k := 97) kx_257_97 (tk_97 hT) ⟨by decide, by decide⟩ ((fl9 97 _ rfl).trans v1e) ?_
          refine s_iconst (v := 1) kx_257_98 (by decide) ?_
          refine r_sub kx_257_99 ⟨by omega, by omega⟩ ?_
          refine r_ast (k := 97) kx_257_100 (tk_97 hT) ⟨by decide, by decide⟩ hI9 (ru_97 (by omega) (by omega)) (fun M19 hI19 u19 => ?_)
          have hFm19 := hFm9.up u19 rfl
          refine s_aload_n kx_257_101 rfl ?_
          refine r_getR (k := 63) (f := 53) (k2 := 97) kx_257_102 kp_257_174 (tk_63 hT) kf_12_53 (by decide) (rq_63_53 hI19) ?_
          refine s_iconst (v := 0) kx_257_105 (by decide) ?_
          refine r_aldK (k := 97) kx_257_106 (tk_97 hT) ⟨by decide, by decide⟩ u19.1 ?_
          refine s_istore kx_257_107 km_257_5 rfl ?_
          refine s_aload_n kx_257_109 rfl ?_
          refine r_getR (k := 63) (f := 54) (k2 := 98) kx_257_110 kp_257_177 (tk_63 hT) kf_12_54 (by decide) (rq_63_54 hI19) ?_
          refine s_iload kx_257_113 rfl ?_
          refine s_iload_n kx_257_115 rfl ?_
          refine r_ast (k := 98) kx_257_116 (tk_98 hT) ⟨by omega, by omega⟩ hI19 ru_98 (fun M20 hI20 u20 => ?_)
          have hFm20 := hFm19.up u20 rfl
          refine s_aload_n kx_257_117 rfl ?_
          refine r_getR (k := 63) (f := 55) (k2 := 99) kx_257_118 kp_257_180 (tk_63 hT) kf_12_55 (by decide) (rq_63_55 hI20) ?_
          refine s_iload kx_257_121 rfl ?_
          refine s_iload_n kx_257_123 rfl ?_
          refine r_ast (k := 99) kx_257_124 (tk_99 hT) ⟨by omega, by omega⟩ hI20 ru_99 (fun M21 hI21 u21 => ?_)
          have hFm21 := hFm20.up u21 rfl
          refine s_aload_n kx_257_125 rfl ?_
          refine r_getR (k := 63) (f := 56) (k2 := 100) kx_257_126 kp_257_183 (tk_63 hT) kf_12_56 (by decide) (rq_63_56 hI21) ?_
          refine s_iload kx_257_129 rfl ?_
          refine s_iload_n kx_257_131 rfl ?_
          refine r_ast (k := 100) kx_257_132 (tk_100 hT) ⟨by omega, by omega⟩ hI21 ru_100 (fun M22 hI22 u22 => ?_)
          have hFm22 := hFm21.up u22 rfl
          refine s_aload_n kx_257_133 rfl ?_
          refine r_getR (k := 63) (f := 57) (k2 := 101) kx_257_134 kp_257_186 (tk_63 hT) kf_12_57 (by decide) (rq_63_57 hI22) ?_
          refine s_iload kx_257_137 rfl ?_
          refine s_iload kx_257_139 rfl ?_
          refine r_ast (k := 101) kx_257_141 (tk_101 hT) ⟨by omega, by omega⟩ hI22 ru_101 (fun M23 hI23 u23 => ?_)
          have hFm23 := hFm22.up u23 rfl
          refine s_aload_n kx_257_142 rfl ?_
          refine r_getR (k := 63) (f := 53) (k2 := 97) kx_257_143 kp_257_174 (tk_63 hT) kf_12_53 (by decide) (rq_63_53 hI23) ?_
          refine s_iconst (v := 0) kx_257_146 (by decide) ?_
          refine s_dup2 kx_257_147 rfl rfl ?_
          refine r_aldK (k := 97) kx_257_148 (tk_97 hT) ⟨by decide, by decide⟩ ((u23.2 97 _ (by omega)).trans ((u22.2 97 _ (by omega)).trans ((u21.2 97 _ (by omega)).trans ((u20.2 97 _ (by omega)).trans u19.1)))) ?_
          refine s_iconst (v := 1) kx_257_149 (by decide) ?_
          refine r_add kx_257_150 ⟨by omega, by omega⟩ ?_
          refine r_ast (k := 97) kx_257_151 (tk_97 hT) ⟨by decide, by decide⟩ hI23 (ru_97 (by omega) (by omega)) (fun M24 hI24 u24 => ?_)
          have hFm24 := hFm23.up u24 rfl
          exact s_vret kx_257_152 kq_257 ⟨_, rfl, rfl, hI24, hFm24, ⟨RR0.kp (RR0.up (RR0.up (RR0.up (RR0.up (RR0.up (RR0.up (RR0.fr hR.o fl9 rfl) u19 (by omega)) u20 (by omega)) u21 (by omega)) u22 (by omega)) u23 (by omega)) u24 (by omega)) (KX.kp hR.k ⟨by omega, by omega⟩ ⟨by omega, by omega⟩ ⟨by omega, by omega⟩ (by rw [if_neg (by omega)]; exact u24.1.trans (by omega)) ⟨(by rw [if_neg (by omega)]; exact (congrArg (M24 98) (by omega)).trans ((u24.2 98 _ (by omega)).trans ((u23.2 98 _ (by omega)).trans ((u22.2 98 _ (by omega)).trans ((u21.2 98 _ (by omega)).trans (u20.1)))))), (by rw [if_neg (by omega)]; exact (congrArg (M24 99) (by omega)).trans ((u24.2 99 _ (by omega)).trans ((u23.2 99 _ (by omega)).trans ((u22.2 99 _ (by omega)).trans (u21.1))))), (by rw [if_neg (by omega)]; exact (congrArg (M24 100) (by omega)).trans ((u24.2 100 _ (by omega)).trans ((u23.2 100 _ (by omega)).trans (u22.1)))), (by rw [if_neg (by omega)]; exact (congrArg (M24 101) (by omega)).trans ((u24.2 101 _ (by omega)).trans (u23.1)))⟩ (fun z => absurd z (by omega)) (fun _ c hc k hk => (u24.2 c k (by omega)).trans ((u23.2 c k (by omega)).trans ((u22.2 c k (by omega)).trans ((u21.2 c k (by omega)).trans ((u20.2 c k (by omega)).trans ((u19.2 c k (by omega)).trans (((i15 c hc k).1 (by omega)))))))))), (RH.up (RH.up (RH.up (RH.up (RH.up (RH.up i14 hD.1 u19 (by omega)) hD.1 u20 (by omega)) hD.1 u21 (by omega)) hD.1 u22 (by omega)) hD.1 u23 (by omega)) hD.1 u24 (by omega))⟩⟩
        · refine s_aload_n kx_257_21 rfl ?_
          refine r_getR (k := 63) (f := 54) (k2 := 98) kx_257_22 kp_257_177 (tk_63 hT) kf_12_54 (by decide) (rq_63_54 hI9) ?_
          refine s_iload kx_257_25 rfl ?_
          refine s_aload_n kx_257_27 rfl ?_
          refine r_getR (k := 63) (f := 54) (k2 := 98) kx_257_28 kp_257_177 (tk_63 hT) kf_12_54 (by decide) (rq_63_54 hI9) ?_
          refine s_iload kx_257_31 rfl ?_
          refine s_iconst (v := 1) kx_257_33 (by decide) ?_
          refine r_add kx_257_34 ⟨by omega, by omega⟩ ?_
          refine r_aldU (k := 98) kx_257_35 (tk_98 hT) ⟨by omega, by omega⟩ (fun v25 v25e => ?_)
          refine r_ast (k := 98) kx_257_36 (tk_98 hT) ⟨by omega, by omega⟩ hI9 ru_98 (fun M26 hI26 u26 => ?_)
          have hFm26 := hFm9.up u26 rfl
          have hFl1426 := fl9.up u26 rfl
          refine s_aload_n kx_257_37 rfl ?_
          refine r_getR (k := 63) (f := 55) (k2 := 99) kx_257_38 kp_257_180 (tk_63 hT) kf_12_55 (by decide) (rq_63_55 hI26) ?_
          refine s_iload kx_257_41 rfl ?_
          refine s_aload_n kx_257_43 rfl ?_
          refine r_getR (k := 63) (f := 55) (k2 := 99) kx_257_44 kp_257_180 (tk_63 hT) kf_12_55 (by decide) (rq_63_55 hI26) ?_
          refine s_iload kx_257_47 rfl ?_
          refine s_iconst (v := 1) kx_257_49 (by decide) ?_
          refine r_add kx_257_50 ⟨by omega, by omega⟩ ?_
          refine r_aldU (k := 99) kx_257_51 (tk_99 hT) ⟨by omega, by omega⟩ (fun v27 v27e => ?_)
          refine r_ast (k := 99) kx_257_52 (tk_99 hT) ⟨by omega, by omega⟩ hI26 ru_99 (fun M28 hI28 u28 => ?_)
          have hFm28 := hFm26.up u28 rfl
          have hFl1428 := hFl1426.up u28 rfl
          refine s_aload_n kx_257_53 rfl ?_
          refine r_getR (k := 63) (f := 56) (k2 := 100) kx_257_54 kp_257_183 (tk_63 hT) kf_12_56 (by decide) (rq_63_56 hI28) ?_
          refine s_iload kx_257_57 rfl ?_
          refine s_aload_n kx_257_59 rfl ?_
          refine r_getR (k := 63) (f := 56) (k2 := 100) kx_257_60 kp_257_183 (tk_63 hT) kf_12_56 (by decide) (rq_63_56 hI28) ?_
          refine s_iload kx_257_63 rfl ?_
          refine s_iconst (v := 1) kx_257_65 (by decide) ?_
          refine r_add kx_257_66 ⟨by omega, by omega⟩ ?_
          refine r_aldU (k := 100) kx_257_67 (tk_100 hT) ⟨by omega, by omega⟩ (fun v29 v29e => ?_)
          refine r_ast (k := 100) kx_257_68 (tk_100 hT) ⟨by omega, by omega⟩ hI28 ru_100 (fun M30 hI30 u30 => ?_)
          have hFm30 := hFm28.up u30 rfl
          have hFl1430 := hFl1428.up u30 rfl
          refine s_aload_n kx_257_69 rfl ?_
          refine r_getR (k := 63) (f := 57) (k2 := 101) kx_257_70 kp_257_186 (tk_63 hT) kf_12_57 (by decide) (rq_63_57 hI30) ?_
          refine s_iload kx_257_73 rfl ?_
          refine s_aload_n kx_257_75 rfl ?_
          refine r_getR (k := 63) (f := 57) (k2 := 101) kx_257_76 kp_257_186 (tk_63 hT) kf_12_57 (by decide) (rq_63_57 hI30) ?_
          refine s_iload kx_257_79 rfl ?_
          refine s_iconst (v := 1) kx_257_81 (by decide) ?_
          refine r_add kx_257_82 ⟨by omega, by omega⟩ ?_
          refine r_aldU (k := 101) kx_257_83 (tk_101 hT) ⟨by omega, by omega⟩ (fun v31 v31e => ?_)
          refine r_ast (k := 101) kx_257_84 (tk_101 hT) ⟨by omega, by omega⟩ hI30 ru_101 (fun M32 hI32 u32 => ?_)
          have hFm32 := hFm30.up u32 rfl
          have hFl1432 := hFl1430.up u32 rfl
          refine r_iinc kx_257_85 rfl km_257_5 (by decide) ⟨by omega, by omega⟩ rfl ?_
          refine s_goto (t := 14) kx_257_88 (by decide) ?_
          exact cP.wk (lS1 rfl (lS1 rfl (lS1 rfl (lS1 rfl (lS1 rfl (lS1 rfl lS0)))))) (ih17 (x5_8 + 1) M32 hI32 hFm32 hFl1432 (by omega) (by omega) (RH.up (RH.up (RH.up (RH.up i14 hD.1 u26 (by omega)) hD.1 u28 (by omega)) hD.1 u30 (by omega)) hD.1 u32 (by omega)) (SHF.nx i15 (by omega) (((u32.2 98 _ (by omega)).trans ((u30.2 98 _ (by omega)).trans ((u28.2 98 _ (by omega)).trans (u26.1)))).trans ((v25e).symm.trans (congrArg (M9 98) (by omega)))) (((u32.2 99 _ (by omega)).trans ((u30.2 99 _ (by omega)).trans (u28.1))).trans (((v27e).symm.trans (u26.2 99 _ (by omega))).trans (congrArg (M9 99) (by omega)))) (((u32.2 100 _ (by omega)).trans (u30.1)).trans ((((v29e).symm.trans (u28.2 100 _ (by omega))).trans (u26.2 100 _ (by omega))).trans (congrArg (M9 100) (by omega)))) ((u32.1).trans (((((v31e).symm.trans (u30.2 101 _ (by omega))).trans (u28.2 101 _ (by omega))).trans (u26.2 101 _ (by omega))).trans (congrArg (M9 101) (by omega)))) (fun c hc f hf => (u32.2 c f (by omega)).trans ((u30.2 c f (by omega)).trans ((u28.2 c f (by omega)).trans ((u26.2 c f (by omega)).trans (rfl)))))) (by omega))
    exact cP.wk (lS1 rfl (lS1 rfl (lS1 rfl (lS1 rfl (lS1 rfl (lS1 rfl lS0)))))) (key10 _ 0 M hI hFm Fr.refl (by omega) (by omega) hH (fun c _ q => ⟨fun z => absurd z (by omega), fun _ => rfl⟩) (Nat.lt_succ_self _))
def gR_259_m : List (Nat × Nat) := [(100, 99999), (101, 99999), (102, 99999), (63, 60), (63, 62), (63, 63), (63, 64), (92, 99999), (93, 99999), (94, 99999), (95, 99999), (97, 99999), (98, 99999), (99, 99999)]
theorem g_259 {xs : Nat → Int} {Ln d : Nat} {T : List cK} {M : cM} (hT : TT T) (hI : Rng M) {p r c : Int} {D S : cM} (hR : RR D S M) (hS : Sg M) {H : Nat → cM} {hc : Int} (hH : RH D H hc M) (p0 : 0 ≤ p ∧ p ≤ 7) (p1 : 0 ≤ r ∧ r ≤ 7) (p2 : (-1) ≤ c ∧ c ≤ 7) (p3 : p < D 0 1) (p4 : r < D 0 0) (p5 : c < D 0 1) : cC k_P xs Ln (d + 5) 259 [rf 63, (0, p), (0, r), (0, c)] (T, M) (qV T M gR_259_m (fun M1 => RR D (pMv D S p r c) M1 ∧ RH D H hc M1)) := by
  show cP k_P xs Ln (d + 5) 259 0 [(0, rf 63), (1, (0, p)), (2, (0, r)), (3, (0, c))] [] (T, M) _
  have hFm : Fr gR_259_m M M := Fr.refl
  have hD := hR.2.1
  have hDr := hD.rg
  have hSW := hR.2.2.2.2.1
  refine s_aload_n kx_259_0 rfl ?_
  refine s_iload_n kx_259_1 rfl ?_
  refine s_iload_n kx_259_2 rfl ?_
  refine s_iload_n kx_259_3 rfl ?_
  refine s_callV2 (k := 63) (s1 := 4) (s2 := 0) (as := [(0, c), (0, r), (0, p)]) (rest := []) kx_259_4 kp_259_530 (Or.inl rfl) rfl (tk_63 hT) ki_254 kcl_254 rfl rfl (by decide) (g_254 (d := d) (p := p) (r := r) (c := c) hT hI hR (by omega) (by omega) (by omega) (by omega) (by omega) (by omega)) (kW (fun v1 M2 hI2 fr2 v1p => ?_))
  have hFm2 := hFm.call fr2 rfl
  have hc3 := (RR.fr hR fr2 rfl)
  have hc4 := (RH.fr hH hD.1 fr2 rfl)
  refine s_istore kx_259_7 km_259_4 rfl ?_
  refine s_aload_n kx_259_9 rfl ?_
  refine s_iload_n kx_259_10 rfl ?_
  refine s_iload kx_259_11 rfl ?_
  refine s_callV2 (k := 63) (s1 := 3) (s2 := 0) (as := [(0, v1), (0, p)]) (rest := []) kx_259_13 kp_259_542 (Or.inl rfl) rfl (tk_63 hT) ki_258 kcl_258 rfl rfl (by decide) (g_258 (d := d + 4) (p := p) (n := v1) hT hI2 hc3 hc4 (by omega) (by omega) (by omega)) (kV (fun M6 hI6 fr6 v5p => ?_))
  have hFm6 := hFm2.call fr6 rfl
  have hc7 := v5p.1
  have hc8 := v5p.2
  refine s_aload_n kx_259_16 rfl ?_
  refine r_getR (k := 63) (f := 48) (k2 := 92) kx_259_17 kp_259_159 (tk_63 hT) kf_12_48 (by decide) (rq_63_48 hI6) ?_
  refine s_iload_n kx_259_20 rfl ?_
  refine s_iload_n kx_259_21 rfl ?_
  refine r_ast (k := 92) kx_259_22 (tk_92 hT) ⟨by omega, by omega⟩ hI6 (ru_92 (fun _ => by omega)) (fun M9 hI9 u9 => ?_)
  have hFm9 := hFm6.up u9 rfl
  have hc10 := (RR.u0 hc7 u9 (p := p) ⟨by omega, by omega⟩ (by omega) ⟨by omega, by omega⟩)
  have hc11 := (RH.up hc8 hD.1 u9 (by omega))
  refine s_iload_n kx_259_23 rfl ?_
  refine s_iconst (v := (-1)) kx_259_24 (by decide) ?_
  refine s_icmp_ne (t := 29) kx_259_25 (by decide) (fun hc12 => ?_) (fun hc12 => ?_)
  · refine s_aload_n kx_259_29 rfl ?_
    refine r_getR (k := 63) (f := 49) (k2 := 93) kx_259_30 kp_259_162 (tk_63 hT) kf_12_49 (by decide) (rq_63_49 hI9) ?_
    refine s_iload_n kx_259_33 rfl ?_
    refine s_iload_n kx_259_34 rfl ?_
    refine r_ast (k := 93) kx_259_35 (tk_93 hT) ⟨by omega, by omega⟩ hI9 (ru_93 (fun _ => by omega)) (fun M13 hI13 u13 => ?_)
    have hFm13 := hFm9.up u13 rfl
    have hc14 := (RR.u1 hc10 u13 (p := c) ⟨by omega, by omega⟩ (by omega) ⟨by omega, by omega⟩)
    have hc15 := (RH.up hc11 hD.1 u13 (by omega))
    refine s_aload_n kx_259_36 rfl ?_
    refine s_iload_n kx_259_37 rfl ?_
    refine s_iload_n kx_259_38 rfl ?_
    refine s_iload_n kx_259_39 rfl ?_
    refine s_iload kx_259_40 rfl ?_
    refine s_callV2 (k := 63) (s1 := 5) (s2 := 0) (as := [(0, v1), (0, r), (0, p), (0, c)]) (rest := []) kx_259_42 kp_259_545 (Or.inl rfl) rfl (tk_63 hT) ki_257 kcl_257 rfl rfl (by decide) (g_257 (d := d + 4) (whose := c) (by_ := p) (r := r) (minutes := v1) hT hI13 hc14 hc15 (by omega) (by omega) (by omega) (by omega)) (kV (fun M17 hI17 fr17 v16p => ?_))
    have hFm17 := hFm13.call fr17 rfl
    have hc18 := v16p.1
    have hc19 := v16p.2
    refine s_aload_n kx_259_45 rfl ?_
    refine r_getR (k := 63) (f := 29) (k2 := 79) kx_259_46 kp_259_99 (tk_63 hT) kf_12_29 (by decide) (rq_63_29 hI17) ?_
    refine s_aload_n kx_259_49 rfl ?_
    refine r_getI (k := 63) (f := 14) kx_259_50 kp_259_54 (tk_63 hT) kf_12_14 (fun _ => rfl) (rg_63_14 hI17) (fun v20 v20e v20a v20b => ?_)
    have v20z : M 63 14 = v20 := (((fr17 63 14 rfl).trans ((u13.2 63 14 (by omega)).trans ((u9.2 63 14 (by omega)).trans ((fr6 63 14 rfl).trans (fr2 63 14 rfl)))))).symm.trans v20e
    refine r_aldU (k := 79) kx_259_53 (tk_79 hT) ⟨by omega, by omega⟩ (fun v21 v21e => ?_)
    have v21d : D 0 2 = v21 := by have h9 := (hc18).1.2.2.1; rw [v20e] at h9; exact h9.symm.trans v21e
    refine s_if_le (t := 82) kx_259_54 (by decide) (fun hc22 => ?_) (fun hc22 => ?_)
    · exact s_vret kx_259_82 kq_259 ⟨_, rfl, rfl, hI17, hFm17, ⟨(by unfold pMv; rw [← show v1 = pMi D S p r c from v1p.2.2]; unfold pMw; rw [if_neg (by omega), if_neg (by omega)]; exact hc18), hc19⟩⟩
    · refine s_aload_n kx_259_57 rfl ?_
      refine s_bipush (v := 100) kx_259_58 (by decide) ?_
      refine s_callV2 (k := 63) (s1 := 2) (s2 := 0) (as := [(0, 100)]) (rest := []) kx_259_60 kp_259_549 (Or.inl rfl) rfl (tk_63 hT) ki_256 kcl_256 rfl rfl (by decide) (g_256 (d := d + 4) (of_ := 100) hT hI17 hc18 (by omega)) (kW (fun v23 M24 hI24 fr24 v23p => ?_))
      have hFm24 := hFm17.call fr24 rfl
      have hc25 := v23p.1
      have hc26 := (RH.fr hc19 hD.1 fr24 rfl)
      refine s_aload_n kx_259_63 rfl ?_
      refine r_getR (k := 63) (f := 29) (k2 := 79) kx_259_64 kp_259_99 (tk_63 hT) kf_12_29 (by decide) (rq_63_29 hI24) ?_
      refine s_aload_n kx_259_67 rfl ?_
      refine r_getK (k := 63) (f := 14) kx_259_68 kp_259_54 (tk_63 hT) kf_12_14 (fun _ => rfl) ((fr24 63 14 rfl).trans v20e) ?_
      refine r_aldK (k := 79) kx_259_71 (tk_79 hT) ⟨by omega, by omega⟩ ((fr24 79 _ rfl).trans v21e) ?_
      refine s_icmp_ge (t := 82) kx_259_72 (by decide) (fun hc27 => ?_) (fun hc27 => ?_)
      · exact s_vret kx_259_82 kq_259 ⟨_, rfl, rfl, hI24, hFm24, ⟨(by unfold pMv; rw [← show v1 = pMi D S p r c from v1p.2.2]; unfold pMw; rw [if_neg (by omega), if_pos (by omega), if_neg (by have h9 := v23p.2.1; unfold pM1; omega)]; exact hc25), hc26⟩⟩
      · refine s_aload_n kx_259_75 rfl ?_
        refine r_getR (k := 63) (f := 50) (k2 := 94) kx_259_76 kp_259_165 (tk_63 hT) kf_12_50 (by decide) (rq_63_50 hI24) ?_
        refine s_iload_n kx_259_79 rfl ?_
        refine s_iconst (v := 1) kx_259_80 (by decide) ?_
        refine r_ast (k := 94) kx_259_81 (tk_94 hT) ⟨by omega, by omega⟩ hI24 ru_94 (fun M28 hI28 u28 => ?_)
        have hFm28 := hFm24.up u28 rfl
        have hc29 := (RR.u2 hc25 u28 (p := c) ⟨by omega, by omega⟩ (by omega) (by omega))
        have hc30 := (RH.up hc26 hD.1 u28 (by omega))
        exact s_vret kx_259_82 kq_259 ⟨_, rfl, rfl, hI28, hFm28, ⟨(by unfold pMv; rw [← show v1 = pMi D S p r c from v1p.2.2]; unfold pMw; rw [if_neg (by omega), if_pos (by omega), if_pos (by have h9 := v23p.2.1; unfold pM1; omega)]; exact hc29), hc30⟩⟩
  · exact s_vret kx_259_28 kq_259 ⟨_, rfl, rfl, hI9, hFm9, ⟨(by unfold pMv; rw [← show v1 = pMi D S p r c from v1p.2.2]; unfold pMw; rw [if_pos (by omega)]; exact hc10), hc11⟩⟩
def gR_261_m : List (Nat × Nat) := [(102, 99999), (63, 62), (63, 63), (63, 64), (95, 99999), (96, 99999)]
theorem g_261 {xs : Nat → Int} {Ln d : Nat} {T : List cK} {M : cM} (hT : TT T) (hI : Rng M) {p n : Int} {D S : cM} (hR : RR D S M) (hS : Sg M) {H : Nat → cM} {hc : Int} (hH : RH D H hc M) (p0 : 0 ≤ p ∧ p ≤ 7) (p1 : 0 ≤ n ∧ n ≤ 999) (p2 : p < D 0 1) : cC k_P xs Ln (d + 4) 261 [rf 63, (0, p), (0, n)] (T, M) (qV T M gR_261_m (fun M1 => RR D (pSp S p n) M1 ∧ RH D H hc M1)) := by
  show cP k_P xs Ln (d + 4) 261 0 [(0, rf 63), (1, (0, p)), (2, (0, n))] [] (T, M) _
  have hFm : Fr gR_261_m M M := Fr.refl
  have hD := hR.2.1
  have hDr := hD.rg
  have hSW := hR.2.2.2.2.1
  refine s_aload_n kx_261_0 rfl ?_
  refine s_iload_n kx_261_1 rfl ?_
  refine s_callV2 (k := 63) (s1 := 2) (s2 := 0) (as := [(0, p)]) (rest := []) kx_261_2 kp_261_503 (Or.inl rfl) rfl (tk_63 hT) ki_244 kcl_244 rfl rfl (by decide) (g_244 (d := d + 1) (p := p) hT hI hR (by omega) (by omega)) (kF (fun v1 v1p => ?_))
  refine s_if_eq (t := 12) kx_261_5 (by decide) (fun hc2 => ?_) (fun hc2 => ?_)
  · replace v1p := v1p.resolve_left (by omega)
    refine s_aload_n kx_261_12 rfl ?_
    refine s_iload_n kx_261_13 rfl ?_
    refine s_iload_n kx_261_14 rfl ?_
    refine s_callV2 (k := 63) (s1 := 3) (s2 := 0) (as := [(0, n), (0, p)]) (rest := []) kx_261_15 kp_261_559 (Or.inl rfl) rfl (tk_63 hT) ki_236 kcl_236 rfl rfl (by decide) (m_236 (d := d) (p := p) (n := n) hT hI hS (by omega)) (kW (fun v3 M4 hI4 fr4 v3p => ?_))
    have hFm4 := hFm.call fr4 rfl
    have hc5 := (RR.fr hR fr4 rfl)
    have hc6 := (RH.fr hH hD.1 fr4 rfl)
    refine s_istore_n kx_261_18 km_261_3 rfl ?_
    refine s_aload_n kx_261_19 rfl ?_
    refine r_getR (k := 63) (f := 52) (k2 := 96) kx_261_20 kp_261_171 (tk_63 hT) kf_12_52 (by decide) (rq_63_52 hI4) ?_
    refine s_iload_n kx_261_23 rfl ?_
    refine s_aload_n kx_261_24 rfl ?_
    refine r_getR (k := 63) (f := 52) (k2 := 96) kx_261_25 kp_261_171 (tk_63 hT) kf_12_52 (by decide) (rq_63_52 hI4) ?_
    refine s_iload_n kx_261_28 rfl ?_
    refine r_aldU (k := 96) kx_261_29 (tk_96 hT) ⟨by omega, by omega⟩ (fun v7 v7e => ?_)
    refine s_ldc_w kx_261_30 kp_261_541 ?_
    refine s_iload_n kx_261_33 rfl ?_
    refine r_isubR kx_261_34 (fun v8 v8a v8b => ?_)
    refine s_icmp_le (t := 44) kx_261_35 (by decide) (fun hc9 => ?_) (fun hc9 => ?_)
    · refine s_aload_n kx_261_44 rfl ?_
      refine r_getR (k := 63) (f := 52) (k2 := 96) kx_261_45 kp_261_171 (tk_63 hT) kf_12_52 (by decide) (rq_63_52 hI4) ?_
      refine s_iload_n kx_261_48 rfl ?_
      refine r_aldK (k := 96) kx_261_49 (tk_96 hT) ⟨by omega, by omega⟩ v7e ?_
      refine s_iload_n kx_261_50 rfl ?_
      refine r_iaddR kx_261_51 (fun v10 v10a v10b => ?_)
      refine r_ast (k := 96) kx_261_52 (tk_96 hT) ⟨by omega, by omega⟩ hI4 ru_96 (fun M11 hI11 u11 => ?_)
      have hFm11 := hFm4.up u11 rfl
      have hc12 := (RR.up hc5 u11 (by omega))
      have hc13 := (RH.up hc6 hD.1 u11 (by omega))
      refine s_aload_n kx_261_53 rfl ?_
      refine s_iload_n kx_261_54 rfl ?_
      refine s_iload_n kx_261_55 rfl ?_
      refine s_callV2 (k := 63) (s1 := 3) (s2 := 0) (as := [(0, n), (0, p)]) (rest := []) kx_261_56 kp_261_542 (Or.inl rfl) rfl (tk_63 hT) ki_258 kcl_258 rfl rfl (by decide) (g_258 (d := d + 3) (p := p) (n := n) hT hI11 hc12 hc13 (by omega) (by omega) (by omega)) (kV (fun M15 hI15 fr15 v14p => ?_))
      have hFm15 := hFm11.call fr15 rfl
      have hc16 := v14p.1
      have hc17 := v14p.2
      exact s_vret kx_261_59 kq_261 ⟨_, rfl, rfl, hI15, hFm15, ⟨hc16, hc17⟩⟩
    · refine s_ldc_w kx_261_38 kp_261_541 ?_
      refine s_goto (t := 52) kx_261_41 (by decide) ?_
      refine r_ast (k := 96) kx_261_52 (tk_96 hT) ⟨by omega, by omega⟩ hI4 ru_96 (fun M18 hI18 u18 => ?_)
      have hFm18 := hFm4.up u18 rfl
      have hc19 := (RR.up hc5 u18 (by omega))
      have hc20 := (RH.up hc6 hD.1 u18 (by omega))
      refine s_aload_n kx_261_53 rfl ?_
      refine s_iload_n kx_261_54 rfl ?_
      refine s_iload_n kx_261_55 rfl ?_
      refine s_callV2 (k := 63) (s1 := 3) (s2 := 0) (as := [(0, n), (0, p)]) (rest := []) kx_261_56 kp_261_542 (Or.inl rfl) rfl (tk_63 hT) ki_258 kcl_258 rfl rfl (by decide) (g_258 (d := d + 3) (p := p) (n := n) hT hI18 hc19 hc20 (by omega) (by omega) (by omega)) (kV (fun M22 hI22 fr22 v21p => ?_))
      have hFm22 := hFm18.call fr22 rfl
      have hc23 := v21p.1
      have hc24 := v21p.2
      exact s_vret kx_261_59 kq_261 ⟨_, rfl, rfl, hI22, hFm22, ⟨hc23, hc24⟩⟩
  · replace v1p := v1p.resolve_right (by omega)
    refine s_iconst (v := 0) kx_261_8 (by decide) ?_
    refine s_goto (t := 18) kx_261_9 (by decide) ?_
    refine s_istore_n kx_261_18 km_261_3 rfl ?_
    refine s_aload_n kx_261_19 rfl ?_
    refine r_getR (k := 63) (f := 52) (k2 := 96) kx_261_20 kp_261_171 (tk_63 hT) kf_12_52 (by decide) (rq_63_52 hI) ?_
    refine s_iload_n kx_261_23 rfl ?_
    refine s_aload_n kx_261_24 rfl ?_
    refine r_getR (k := 63) (f := 52) (k2 := 96) kx_261_25 kp_261_171 (tk_63 hT) kf_12_52 (by decide) (rq_63_52 hI) ?_
    refine s_iload_n kx_261_28 rfl ?_
    refine r_aldU (k := 96) kx_261_29 (tk_96 hT) ⟨by omega, by omega⟩ (fun v25 v25e => ?_)
    refine s_ldc_w kx_261_30 kp_261_541 ?_
    refine s_iload_n kx_261_33 rfl ?_
    refine s_isub (z := 99999) kx_261_34 (by decide) ?_
    refine s_icmp_le (t := 44) kx_261_35 (by decide) (fun hc26 => ?_) (fun hc26 => ?_)
    · refine s_aload_n kx_261_44 rfl ?_
      refine r_getR (k := 63) (f := 52) (k2 := 96) kx_261_45 kp_261_171 (tk_63 hT) kf_12_52 (by decide) (rq_63_52 hI) ?_
      refine s_iload_n kx_261_48 rfl ?_
      refine r_aldK (k := 96) kx_261_49 (tk_96 hT) ⟨by omega, by omega⟩ v25e ?_
      refine s_iload_n kx_261_50 rfl ?_
      refine r_iaddR kx_261_51 (fun v27 v27a v27b => ?_)
      refine r_ast (k := 96) kx_261_52 (tk_96 hT) ⟨by omega, by omega⟩ hI ru_96 (fun M28 hI28 u28 => ?_)
      have hFm28 := hFm.up u28 rfl
      have hc29 := (RR.up hR u28 (by omega))
      have hc30 := (RH.up hH hD.1 u28 (by omega))
      refine s_aload_n kx_261_53 rfl ?_
      refine s_iload_n kx_261_54 rfl ?_
      refine s_iload_n kx_261_55 rfl ?_
      refine s_callV2 (k := 63) (s1 := 3) (s2 := 0) (as := [(0, n), (0, p)]) (rest := []) kx_261_56 kp_261_542 (Or.inl rfl) rfl (tk_63 hT) ki_258 kcl_258 rfl rfl (by decide) (g_258 (d := d + 3) (p := p) (n := n) hT hI28 hc29 hc30 (by omega) (by omega) (by omega)) (kV (fun M32 hI32 fr32 v31p => ?_))
      have hFm32 := hFm28.call fr32 rfl
      have hc33 := v31p.1
      have hc34 := v31p.2
      exact s_vret kx_261_59 kq_261 ⟨_, rfl, rfl, hI32, hFm32, ⟨hc33, hc34⟩⟩
    · refine s_ldc_w kx_261_38 kp_261_541 ?_
      refine s_goto (t := 52) kx_261_41 (by decide) ?_
      refine r_ast (k := 96) kx_261_52 (tk_96 hT) ⟨by omega, by omega⟩ hI ru_96 (fun M35 hI35 u35 => ?_)
      have hFm35 := hFm.up u35 rfl
      have hc36 := (RR.up hR u35 (by omega))
      have hc37 := (RH.up hH hD.1 u35 (by omega))
      refine s_aload_n kx_261_53 rfl ?_
      refine s_iload_n kx_261_54 rfl ?_
      refine s_iload_n kx_261_55 rfl ?_
      refine s_callV2 (k := 63) (s1 := 3) (s2 := 0) (as := [(0, n), (0, p)]) (rest := []) kx_261_56 kp_261_542 (Or.inl rfl) rfl (tk_63 hT) ki_258 kcl_258 rfl rfl (by decide) (g_258 (d := d + 3) (p := p) (n := n) hT hI35 hc36 hc37 (by omega) (by omega) (by omega)) (kV (fun M39 hI39 fr39 v38p => ?_))
      have hFm39 := hFm35.call fr39 rfl
      have hc40 := v38p.1
      have hc41 := v38p.2
      exact s_vret kx_261_59 kq_261 ⟨_, rfl, rfl, hI39, hFm39, ⟨hc40, hc41⟩⟩
def gR_224_l114 : List (Nat × Nat) := [(100, 99999), (101, 99999), (98, 99999), (99, 99999)]
def gR_224_l2 : List (Nat × Nat) := [(92, 99999), (93, 99999), (94, 99999), (95, 99999), (96, 99999)]
def gR_224_m : List (Nat × Nat) := [(100, 99999), (101, 99999), (92, 99999), (93, 99999), (94, 99999), (95, 99999), (96, 99999), (97, 99999), (98, 99999), (99, 99999)]
theorem g_224 {xs : Nat → Int} {Ln d : Nat} {T : List cK} {M : cM} (hT : TT T) (hI : Rng M) {to from_ : Int} (p0 : 0 ≤ to ∧ to ≤ 21) (p1 : 0 ≤ from_ ∧ from_ ≤ 21) (p2 : zR M 92 from_ 8) (p3 : zR M 93 from_ 8) (p4 : to ≠ from_) : cC k_P xs Ln (d + 0) 224 [rf 63, (0, to), (0, from_)] (T, M) (qV T M gR_224_m (fun M1 => CPr to from_ M 8 M1 ∧ CPk to from_ M M1)) := by
  show cP k_P xs Ln (d + 0) 224 0 [(0, rf 63), (1, (0, to)), (2, (0, from_))] [] (T, M) _
  have hFm : Fr gR_224_m M M := Fr.refl
  refine s_iconst (v := 0) kx_224_0 (by decide) ?_
  refine s_istore_n kx_224_1 km_224_3 rfl ?_
  have key3 : ∀ n4 : Nat, ∀ (x3_1 : Int), ∀ M2 : cM, Rng M2 → Fr gR_224_m M M2 → Fr gR_224_l2 M M2 → (0 ≤ x3_1) → (x3_1 ≤ 8) → (zR M2 92 from_ 8) → (zR M2 93 from_ 8) → (zR M2 92 to x3_1) → (zR M2 93 to x3_1) → (CPr to from_ M x3_1 M2) → (2147483647 - x3_1).toNat < n4 → cP k_P xs Ln (d + 0) 224 2 [(0, rf 63), (1, (0, to)), (2, (0, from_)), (3, (0, x3_1))] [] (T, M2) (qV T M gR_224_m (fun M1 => CPr to from_ M 8 M1 ∧ CPk to from_ M M1)) := by
    intro n4
    induction n4 with
    | zero => intro x3_1 M2 hI2 hFm2 fl2 i5 i6 i7 i8 i9 i10 i11 hm12; exact absurd hm12 (Nat.not_lt_zero _)
    | succ n4 ih13 =>
      intro x3_1 M2 hI2 hFm2 fl2 i5 i6 i7 i8 i9 i10 i11 hm12
      have hq0 : True := trivial
      refine s_iload_n kx_224_2 rfl ?_
      refine s_bipush (v := 8) kx_224_3 (by decide) ?_
      refine s_icmp_ge (t := 100) kx_224_5 (by decide) (fun hc14 => ?_) (fun hc14 => ?_)
      · refine s_aload_n kx_224_100 rfl ?_
        refine r_getR (k := 63) (f := 53) (k2 := 97) kx_224_101 kp_224_174 (tk_63 hT) kf_12_53 (by decide) (rq_63_53 hI2) ?_
        refine s_iload_n kx_224_104 rfl ?_
        refine s_aload_n kx_224_105 rfl ?_
        refine r_getR (k := 63) (f := 53) (k2 := 97) kx_224_106 kp_224_174 (tk_63 hT) kf_12_53 (by decide) (rq_63_53 hI2) ?_
        refine s_iload_n kx_224_109 rfl ?_
        refine r_ald (k := 97) kx_224_110 (tk_97 hT) ⟨by omega, by omega⟩ (rg_97 hI2) (fun v15 v15e v15a v15b => ?_)
        refine r_ast (k := 97) kx_224_111 (tk_97 hT) ⟨by omega, by omega⟩ hI2 (ru_97 (by omega) (by omega)) (fun M16 hI16 u16 => ?_)
        have hFm16 := hFm2.up u16 rfl
        refine s_iconst (v := 0) kx_224_112 (by decide) ?_
        refine s_istore_n kx_224_113 km_224_3 rfl ?_
        have key19 : ∀ n20 : Nat, ∀ (x3_17 : Int), ∀ M18 : cM, Rng M18 → Fr gR_224_m M M18 → Fr gR_224_l114 M16 M18 → (0 ≤ x3_17) → (x3_17 ≤ 40) → (CPl to from_ M x3_17 M18) → (2147483647 - x3_17).toNat < n20 → cP k_P xs Ln (d + 0) 224 114 [(0, rf 63), (1, (0, to)), (2, (0, from_)), (3, (0, x3_17))] [] (T, M18) (qV T M gR_224_m (fun M1 => CPr to from_ M 8 M1 ∧ CPk to from_ M M1)) := by
          intro n20
          induction n20 with
          | zero => intro x3_17 M18 hI18 hFm18 fl18 i21 i22 i23 hm24; exact absurd hm24 (Nat.not_lt_zero _)
          | succ n20 ih25 =>
            intro x3_17 M18 hI18 hFm18 fl18 i21 i22 i23 hm24
            refine s_iload_n kx_224_114 rfl ?_
            refine s_aload_n kx_224_115 rfl ?_
            refine r_getR (k := 63) (f := 53) (k2 := 97) kx_224_116 kp_224_174 (tk_63 hT) kf_12_53 (by decide) (rq_63_53 hI18) ?_
            refine s_iload_n kx_224_119 rfl ?_
            refine r_ald (k := 97) kx_224_120 (tk_97 hT) ⟨by omega, by omega⟩ (rg_97 hI18) (fun v26 v26e v26a v26b => ?_)
            refine s_icmp_ge (t := 218) kx_224_121 (by decide) (fun hc27 => ?_) (fun hc27 => ?_)
            · exact s_vret kx_224_218 kq_224 ⟨_, rfl, rfl, hI18, hFm18, ⟨(CPr.then i11 (by omega) (fun c hc f => (fl18 c f (by rcases hc with rfl | rfl | rfl | rfl <;> rfl)).trans ((u16.2 c f (by omega)).trans (rfl)))), ⟨(fl18 97 _ rfl).trans (u16.1.trans (v15e.symm.trans (fl2 97 _ rfl))), (fun f hf => (fl18 97 f rfl).trans ((u16.2 97 f (by omega)).trans (fl2 97 f rfl))), (fun c hc => ⟨fun k hk => (i23 c hc).1 k (by have h9 := (fl2 97 (from_).toNat rfl).symm.trans v15e; have h8 := v26e; have h7 := ((fl18 97 (from_).toNat rfl).trans (u16.2 97 _ (by omega))).symm.trans h8; omega), (i23 c hc).2⟩)⟩⟩⟩
            · refine s_aload_n kx_224_124 rfl ?_
              refine r_getR (k := 63) (f := 54) (k2 := 98) kx_224_125 kp_224_177 (tk_63 hT) kf_12_54 (by decide) (rq_63_54 hI18) ?_
              refine s_bipush (v := 40) kx_224_128 (by decide) ?_
              refine s_iload_n kx_224_130 rfl ?_
              refine r_mul kx_224_131 ⟨by omega, by omega⟩ ?_
              refine s_iload_n kx_224_132 rfl ?_
              refine r_add kx_224_133 ⟨by omega, by omega⟩ ?_
              refine s_aload_n kx_224_134 rfl ?_
              refine r_getR (k := 63) (f := 54) (k2 := 98) kx_224_135 kp_224_177 (tk_63 hT) kf_12_54 (by decide) (rq_63_54 hI18) ?_
              refine s_bipush (v := 40) kx_224_138 (by decide) ?_
              refine s_iload_n kx_224_140 rfl ?_
              refine r_mul kx_224_141 ⟨by omega, by omega⟩ ?_
              refine s_iload_n kx_224_142 rfl ?_
              refine r_add kx_224_143 ⟨by omega, by omega⟩ ?_
              refine r_aldU (k := 98) kx_224_144 (tk_98 hT) ⟨by omega, by omega⟩ (fun v28 v28e => ?_)
              refine r_ast (k := 98) kx_224_145 (tk_98 hT) ⟨by omega, by omega⟩ hI18 ru_98 (fun M29 hI29 u29 => ?_)
              have hFm29 := hFm18.up u29 rfl
              have hFl11429 := fl18.up u29 rfl
              refine s_aload_n kx_224_146 rfl ?_
              refine r_getR (k := 63) (f := 55) (k2 := 99) kx_224_147 kp_224_180 (tk_63 hT) kf_12_55 (by decide) (rq_63_55 hI29) ?_
              refine s_bipush (v := 40) kx_224_150 (by decide) ?_
              refine s_iload_n kx_224_152 rfl ?_
              refine r_mul kx_224_153 ⟨by omega, by omega⟩ ?_
              refine s_iload_n kx_224_154 rfl ?_
              refine r_add kx_224_155 ⟨by omega, by omega⟩ ?_
              refine s_aload_n kx_224_156 rfl ?_
              refine r_getR (k := 63) (f := 55) (k2 := 99) kx_224_157 kp_224_180 (tk_63 hT) kf_12_55 (by decide) (rq_63_55 hI29) ?_
              refine s_bipush (v := 40) kx_224_160 (by decide) ?_
              refine s_iload_n kx_224_162 rfl ?_
              refine r_mul kx_224_163 ⟨by omega, by omega⟩ ?_
              refine s_iload_n kx_224_164 rfl ?_
              refine r_add kx_224_165 ⟨by omega, by omega⟩ ?_
              refine r_aldU (k := 99) kx_224_166 (tk_99 hT) ⟨by omega, by omega⟩ (fun v30 v30e => ?_)
              refine r_ast (k := 99) kx_224_167 (tk_99 hT) ⟨by omega, by omega⟩ hI29 ru_99 (fun M31 hI31 u31 => ?_)
              have hFm31 := hFm29.up u31 rfl
              have hFl11431 := hFl11429.up u31 rfl
              refine s_aload_n kx_224_168 rfl ?_
              refine r_getR (k := 63) (f := 56) (k2 := 100) kx_224_169 kp_224_183 (tk_63 hT) kf_12_56 (by decide) (rq_63_56 hI31) ?_
              refine s_bipush (v := 40) kx_224_172 (by decide) ?_
              refine s_iload_n kx_224_174 rfl ?_
              refine r_mul kx_224_175 ⟨by omega, by omega⟩ ?_
              refine s_iload_n kx_224_176 rfl ?_
              refine r_add kx_224_177 ⟨by omega, by omega⟩ ?_
              refine s_aload_n kx_224_178 rfl ?_
              refine r_getR (k := 63) (f := 56) (k2 := 100) kx_224_179 kp_224_183 (tk_63 hT) kf_12_56 (by decide) (rq_63_56 hI31) ?_
              refine s_bipush (v := 40) kx_224_182 (by decide) ?_
              refine s_iload_n kx_224_184 rfl ?_
              refine r_mul kx_224_185 ⟨by omega, by omega⟩ ?_
              refine s_iload_n kx_224_186 rfl ?_
              refine r_add kx_224_187 ⟨by omega, by omega⟩ ?_
              refine r_aldU (k := 100) kx_224_188 (tk_100 hT) ⟨by omega, by omega⟩ (fun v32 v32e => ?_)
              refine r_ast (k := 100) kx_224_189 (tk_100 hT) ⟨by omega, by omega⟩ hI31 ru_100 (fun M33 hI33 u33 => ?_)
              have hFm33 := hFm31.up u33 rfl
              have hFl11433 := hFl11431.up u33 rfl
              refine s_aload_n kx_224_190 rfl ?_
              refine r_getR (k := 63) (f := 57) (k2 := 101) kx_224_191 kp_224_186 (tk_63 hT) kf_12_57 (by decide) (rq_63_57 hI33) ?_
              refine s_bipush (v := 40) kx_224_194 (by decide) ?_
              refine s_iload_n kx_224_196 rfl ?_
              refine r_mul kx_224_197 ⟨by omega, by omega⟩ ?_
              refine s_iload_n kx_224_198 rfl ?_
              refine r_add kx_224_199 ⟨by omega, by omega⟩ ?_
              refine s_aload_n kx_224_200 rfl ?_
              refine r_getR (k := 63) (f := 57) (k2 := 101) kx_224_201 kp_224_186 (tk_63 hT) kf_12_57 (by decide) (rq_63_57 hI33) ?_
              refine s_bipush (v := 40) kx_224_204 (by decide) ?_
              refine s_iload_n kx_224_206 rfl ?_
              refine r_mul kx_224_207 ⟨by omega, by omega⟩ ?_
              refine s_iload_n kx_224_208 rfl ?_
              refine r_add kx_224_209 ⟨by omega, by omega⟩ ?_
              refine r_aldU (k := 101) kx_224_210 (tk_101 hT) ⟨by omega, by omega⟩ (fun v34 v34e => ?_)
              refine r_ast (k := 101) kx_224_211 (tk_101 hT) ⟨by omega, by omega⟩ hI33 ru_101 (fun M35 hI35 u35 => ?_)
              have hFm35 := hFm33.up u35 rfl
              have hFl11435 := hFl11433.up u35 rfl
              refine r_iinc kx_224_212 rfl km_224_3 (by decide) ⟨by omega, by omega⟩ rfl ?_
              refine s_goto (t := 114) kx_224_215 (by decide) ?_
              exact cP.wk (lS1 rfl (lS1 rfl (lS1 rfl (lS1 rfl lS0)))) (ih25 (x3_17 + 1) M35 hI35 hFm35 hFl11435 (by omega) (by omega) (CPl.nx i23 (by omega) (by omega) (by omega) (((u35.2 98 _ (by omega)).trans ((u33.2 98 _ (by omega)).trans ((u31.2 98 _ (by omega)).trans (u29.1)))).trans (v28e).symm) (((u35.2 99 _ (by omega)).trans ((u33.2 99 _ (by omega)).trans (u31.1))).trans ((v30e).symm.trans (u29.2 99 _ (by omega)))) (((u35.2 100 _ (by omega)).trans (u33.1)).trans (((v32e).symm.trans (u31.2 100 _ (by omega))).trans (u29.2 100 _ (by omega)))) ((u35.1).trans ((((v34e).symm.trans (u33.2 101 _ (by omega))).trans (u31.2 101 _ (by omega))).trans (u29.2 101 _ (by omega)))) (fun c hc f hf => (u35.2 c f (by omega)).trans ((u33.2 c f (by omega)).trans ((u31.2 c f (by omega)).trans ((u29.2 c f (by omega)).trans (rfl)))))) (by omega))
        exact cP.wk (lS1 rfl (lS1 rfl (lS1 rfl (lS1 rfl lS0)))) (key19 _ 0 M16 hI16 hFm16 Fr.refl (by omega) (by omega) (fun c hc => ⟨fun k hk => absurd hk (by omega), fun f _ => (u16.2 c f (by omega)).trans ((fl2 c f (by rcases hc with rfl | rfl | rfl | rfl <;> rfl)).trans (rfl))⟩) (Nat.lt_succ_self _))
      · refine s_bipush (v := 8) kx_224_8 (by decide) ?_
        refine s_iload_n kx_224_10 rfl ?_
        refine r_mul kx_224_11 ⟨by omega, by omega⟩ ?_
        refine s_iload_n kx_224_12 rfl ?_
        refine r_add kx_224_13 ⟨by omega, by omega⟩ ?_
        refine s_istore kx_224_14 km_224_4 rfl ?_
        refine s_bipush (v := 8) kx_224_16 (by decide) ?_
        refine s_iload_n kx_224_18 rfl ?_
        refine r_mul kx_224_19 ⟨by omega, by omega⟩ ?_
        refine s_iload_n kx_224_20 rfl ?_
        refine r_add kx_224_21 ⟨by omega, by omega⟩ ?_
        refine s_istore kx_224_22 km_224_5 rfl ?_
        refine s_aload_n kx_224_24 rfl ?_
        refine r_getR (k := 63) (f := 48) (k2 := 92) kx_224_25 kp_224_159 (tk_63 hT) kf_12_48 (by decide) (rq_63_48 hI2) ?_
        refine s_iload kx_224_28 rfl ?_
        refine s_aload_n kx_224_30 rfl ?_
        refine r_getR (k := 63) (f := 48) (k2 := 92) kx_224_31 kp_224_159 (tk_63 hT) kf_12_48 (by decide) (rq_63_48 hI2) ?_
        refine s_iload kx_224_34 rfl ?_
        have hz36 := i7 x3_1 (by omega) (by omega)
        refine r_aldU (k := 92) kx_224_36 (tk_92 hT) ⟨by omega, by omega⟩ (fun v37 v37e => ?_)
        refine r_ast (k := 92) kx_224_37 (tk_92 hT) ⟨by omega, by omega⟩ hI2 (ru_92 (fun _ => by omega)) (fun M38 hI38 u38 => ?_)
        have hFm38 := hFm2.up u38 rfl
        have hFl238 := fl2.up u38 rfl
        refine s_aload_n kx_224_38 rfl ?_
        refine r_getR (k := 63) (f := 49) (k2 := 93) kx_224_39 kp_224_162 (tk_63 hT) kf_12_49 (by decide) (rq_63_49 hI38) ?_
        refine s_iload kx_224_42 rfl ?_
        refine s_aload_n kx_224_44 rfl ?_
        refine r_getR (k := 63) (f := 49) (k2 := 93) kx_224_45 kp_224_162 (tk_63 hT) kf_12_49 (by decide) (rq_63_49 hI38) ?_
        refine s_iload kx_224_48 rfl ?_
        have hz39 := (zR.up i8 u38 (fun e => absurd e (by decide))) x3_1 (by omega) (by omega)
        refine r_aldU (k := 93) kx_224_50 (tk_93 hT) ⟨by omega, by omega⟩ (fun v40 v40e => ?_)
        refine r_ast (k := 93) kx_224_51 (tk_93 hT) ⟨by omega, by omega⟩ hI38 (ru_93 (fun _ => by omega)) (fun M41 hI41 u41 => ?_)
        have hFm41 := hFm38.up u41 rfl
        have hFl241 := hFl238.up u41 rfl
        refine s_aload_n kx_224_52 rfl ?_
        refine r_getR (k := 63) (f := 50) (k2 := 94) kx_224_53 kp_224_165 (tk_63 hT) kf_12_50 (by decide) (rq_63_50 hI41) ?_
        refine s_iload kx_224_56 rfl ?_
        refine s_aload_n kx_224_58 rfl ?_
        refine r_getR (k := 63) (f := 50) (k2 := 94) kx_224_59 kp_224_165 (tk_63 hT) kf_12_50 (by decide) (rq_63_50 hI41) ?_
        refine s_iload kx_224_62 rfl ?_
        refine r_aldU (k := 94) kx_224_64 (tk_94 hT) ⟨by omega, by omega⟩ (fun v42 v42e => ?_)
        refine r_ast (k := 94) kx_224_65 (tk_94 hT) ⟨by omega, by omega⟩ hI41 ru_94 (fun M43 hI43 u43 => ?_)
        have hFm43 := hFm41.up u43 rfl
        have hFl243 := hFl241.up u43 rfl
        refine s_aload_n kx_224_66 rfl ?_
        refine r_getR (k := 63) (f := 51) (k2 := 95) kx_224_67 kp_224_168 (tk_63 hT) kf_12_51 (by decide) (rq_63_51 hI43) ?_
        refine s_iload kx_224_70 rfl ?_
        refine s_aload_n kx_224_72 rfl ?_
        refine r_getR (k := 63) (f := 51) (k2 := 95) kx_224_73 kp_224_168 (tk_63 hT) kf_12_51 (by decide) (rq_63_51 hI43) ?_
        refine s_iload kx_224_76 rfl ?_
        refine r_aldU (k := 95) kx_224_78 (tk_95 hT) ⟨by omega, by omega⟩ (fun v44 v44e => ?_)
        refine r_ast (k := 95) kx_224_79 (tk_95 hT) ⟨by omega, by omega⟩ hI43 ru_95 (fun M45 hI45 u45 => ?_)
        have hFm45 := hFm43.up u45 rfl
        have hFl245 := hFl243.up u45 rfl
        refine s_aload_n kx_224_80 rfl ?_
        refine r_getR (k := 63) (f := 52) (k2 := 96) kx_224_81 kp_224_171 (tk_63 hT) kf_12_52 (by decide) (rq_63_52 hI45) ?_
        refine s_iload kx_224_84 rfl ?_
        refine s_aload_n kx_224_86 rfl ?_
        refine r_getR (k := 63) (f := 52) (k2 := 96) kx_224_87 kp_224_171 (tk_63 hT) kf_12_52 (by decide) (rq_63_52 hI45) ?_
        refine s_iload kx_224_90 rfl ?_
        refine r_aldU (k := 96) kx_224_92 (tk_96 hT) ⟨by omega, by omega⟩ (fun v46 v46e => ?_)
        refine r_ast (k := 96) kx_224_93 (tk_96 hT) ⟨by omega, by omega⟩ hI45 ru_96 (fun M47 hI47 u47 => ?_)
        have hFm47 := hFm45.up u47 rfl
        have hFl247 := hFl245.up u47 rfl
        refine r_iinc kx_224_94 rfl km_224_3 (by decide) ⟨by omega, by omega⟩ rfl ?_
        refine s_goto (t := 2) kx_224_97 (by decide) ?_
        exact cP.wk (lS1 rfl (lS1 rfl (lS1 rfl (lS1 rfl lS0)))) (ih13 (x3_1 + 1) M47 hI47 hFm47 hFl247 (by omega) (by omega) (zR.up (zR.up (zR.up (zR.up (zR.up i7 u38 (fun _ => by omega)) u41 (fun e => absurd e (by decide))) u43 (fun e => absurd e (by decide))) u45 (fun e => absurd e (by decide))) u47 (fun e => absurd e (by decide))) (zR.up (zR.up (zR.up (zR.up (zR.up i8 u38 (fun e => absurd e (by decide))) u41 (fun _ => by omega)) u43 (fun e => absurd e (by decide))) u45 (fun e => absurd e (by decide))) u47 (fun e => absurd e (by decide))) (zR.up (zR.up (zR.up (zR.up (zR.put i9 u38 (by omega)) u41 (fun e => absurd e (by decide))) u43 (fun e => absurd e (by decide))) u45 (fun e => absurd e (by decide))) u47 (fun e => absurd e (by decide))) (zR.up (zR.up (zR.up (zR.put (zR.up i10 u38 (fun e => absurd e (by decide))) u41 (by omega)) u43 (fun e => absurd e (by decide))) u45 (fun e => absurd e (by decide))) u47 (fun e => absurd e (by decide))) (CPr.step i11 (by omega) (by omega) (by omega) (((u47.2 92 _ (by omega)).trans ((u45.2 92 _ (by omega)).trans ((u43.2 92 _ (by omega)).trans ((u41.2 92 _ (by omega)).trans (u38.1))))).trans (v37e).symm) (((u47.2 93 _ (by omega)).trans ((u45.2 93 _ (by omega)).trans ((u43.2 93 _ (by omega)).trans (u41.1)))).trans (((u38.2 93 _ (by omega)).symm.trans v40e)).symm) (((u47.2 94 _ (by omega)).trans ((u45.2 94 _ (by omega)).trans (u43.1))).trans (((u38.2 94 _ (by omega)).symm.trans ((u41.2 94 _ (by omega)).symm.trans v42e))).symm) (((u47.2 95 _ (by omega)).trans (u45.1)).trans (((u38.2 95 _ (by omega)).symm.trans ((u41.2 95 _ (by omega)).symm.trans ((u43.2 95 _ (by omega)).symm.trans v44e)))).symm) (fun f hf => (u47.2 92 f (by omega)).trans ((u45.2 92 f (by omega)).trans ((u43.2 92 f (by omega)).trans ((u41.2 92 f (by omega)).trans (u38.2 92 f (by omega)))))) (fun f hf => (u47.2 93 f (by omega)).trans ((u45.2 93 f (by omega)).trans ((u43.2 93 f (by omega)).trans ((u41.2 93 f (by omega)).trans (u38.2 93 f (by omega)))))) (fun f hf => (u47.2 94 f (by omega)).trans ((u45.2 94 f (by omega)).trans ((u43.2 94 f (by omega)).trans ((u41.2 94 f (by omega)).trans (u38.2 94 f (by omega)))))) (fun f hf => (u47.2 95 f (by omega)).trans ((u45.2 95 f (by omega)).trans ((u43.2 95 f (by omega)).trans ((u41.2 95 f (by omega)).trans (u38.2 95 f (by omega))))))) (by omega))
  exact cP.wk (lS1 rfl (lS1 rfl (lS1 rfl (lS1 rfl lS0)))) (key3 _ 0 M hI hFm Fr.refl (by omega) (by omega) p2 p3 (fun q a b => absurd b (by omega) : zR M 92 to 0) (fun q a b => absurd b (by omega) : zR M 93 to 0) (CPr.zero) (Nat.lt_succ_self _))
theorem g_226 {xs : Nat → Int} {Ln d : Nat} {T : List cK} {M : cM} (hT : TT T) (hI : Rng M) {k : Int} {D S : cM} (hR : RR D S M) (p0 : 0 ≤ k ∧ k ≤ 20) : cC k_P xs Ln (d + 0) 226 [rf 63, (0, k)] (T, M) (qF T M 0 (fun v => 2 ≤ v ∧ v ≤ 21 ∧ (v = 2 + (M 63 58 + k) % 20))) := by
  show cP k_P xs Ln (d + 0) 226 0 [(0, rf 63), (1, (0, k))] [] (T, M) _
  have hD := hR.2.1
  have hDr := hD.rg
  have hSW := hR.2.2.2.2.1
  have hrr := rg_63_58 hI
  refine s_iconst (v := 2) kx_226_0 (by decide) ?_
  refine s_aload_n kx_226_1 rfl ?_
  refine r_getI (k := 63) (f := 58) kx_226_2 kp_226_189 (tk_63 hT) kf_12_58 (fun _ => rfl) (rg_63_58 hI) (fun v1 v1e v1a v1b => ?_)
  refine s_iload_n kx_226_5 rfl ?_
  refine r_add kx_226_6 ⟨by omega, by omega⟩ ?_
  refine s_bipush (v := 20) kx_226_7 (by decide) ?_
  refine r_irem kx_226_9 (by omega) (by omega) (by omega) (by omega) ?_
  refine r_add kx_226_10 ⟨by omega, by omega⟩ ?_
  exact s_iret kx_226_11 (Or.inl kq_226) ⟨_, rfl, rfl, (by omega)⟩
def gR_227_m : List (Nat × Nat) := [(100, 99999), (101, 99999), (63, 58), (63, 59), (92, 99999), (93, 99999), (94, 99999), (95, 99999), (96, 99999), (97, 99999), (98, 99999), (99, 99999)]
theorem g_227 {xs : Nat → Int} {Ln d : Nat} {T : List cK} {M : cM} (hT : TT T) (hI : Rng M) {D S : cM} (hR : RR D S M) {H : Nat → cM} {hc : Int} (hH : RH D H hc M) : cC k_P xs Ln (d + 1) 227 [rf 63] (T, M) (qV T M gR_227_m (fun M1 => RR D S M1 ∧ RH D (pPh S H) (pC1 hc) M1)) := by
  show cP k_P xs Ln (d + 1) 227 0 [(0, rf 63)] [] (T, M) _
  have hFm : Fr gR_227_m M M := Fr.refl
  have hD := hR.2.1
  have hDr := hD.rg
  have hSW := hR.2.2.2.2.1
  have hHc := hH.1
  have hrr := rg_63_58 hI
  refine s_aload_n kx_227_0 rfl ?_
  refine r_getI (k := 63) (f := 59) kx_227_1 kp_227_192 (tk_63 hT) kf_12_59 (fun _ => rfl) (rg_63_59 hI) (fun v1 v1e v1a v1b => ?_)
  refine s_bipush (v := 20) kx_227_4 (by decide) ?_
  refine s_icmp_ne (t := 32) kx_227_6 (by decide) (fun hc2 => ?_) (fun hc2 => ?_)
  · refine s_aload_n kx_227_32 rfl ?_
    refine s_aload_n kx_227_33 rfl ?_
    refine s_aload_n kx_227_34 rfl ?_
    refine r_getK (k := 63) (f := 59) kx_227_35 kp_227_192 (tk_63 hT) kf_12_59 (fun _ => rfl) v1e ?_
    refine s_callV2 (k := 63) (s1 := 2) (s2 := 1) (as := [(0, v1)]) (rest := [rf 63]) kx_227_38 kp_227_449 (Or.inl rfl) rfl (tk_63 hT) ki_226 kcl_226 rfl rfl (by decide) (g_226 (d := d) (k := v1) hT hI hR (by omega)) (kF (fun v3 v3p => ?_))
    have v3q := v3p.2.2
    refine s_iconst (v := 0) kx_227_41 (by decide) ?_
    refine s_callV2 (k := 63) (s1 := 3) (s2 := 0) (as := [(0, 0), (0, v3)]) (rest := []) kx_227_42 kp_227_452 (Or.inl rfl) rfl (tk_63 hT) ki_224 kcl_224 rfl rfl (by decide) (g_224 (d := d) (to := v3) (from_ := 0) hT hI (by omega) (by omega) (zR_of92 hI (by omega)) (zR_of93 hI (by omega)) (by omega)) (kV (fun M5 hI5 fr5 v4p => ?_))
    have hFm5 := hFm.call fr5 rfl
    have hc6 := RR.cpy hR fr5 rfl (fun x hx q hq => (v4p.1 x hx).2 q (by omega)) v4p.2 (by omega)
    refine s_aload_n kx_227_45 rfl ?_
    refine s_dup kx_227_46 rfl ?_
    refine r_getK (k := 63) (f := 59) kx_227_47 kp_227_192 (tk_63 hT) kf_12_59 (fun _ => rfl) ((fr5 63 59 rfl).trans v1e) ?_
    refine s_iconst (v := 1) kx_227_50 (by decide) ?_
    refine r_add kx_227_51 ⟨by omega, by omega⟩ ?_
    refine r_put (k := 63) (f := 59) kx_227_52 kp_227_192 (tk_63 hT) kf_12_59 rfl (by decide) (by decide) hI5 (ru_63_59 (by omega) (by omega)) (fun M7 hI7 u7 => ?_)
    have hFm7 := hFm5.up u7 rfl
    have hc8 := (RR.up hc6 u7 (by omega))
    exact s_vret kx_227_55 kq_227 ⟨_, rfl, rfl, hI7, hFm7, ⟨hc8, RH.push hH hSW hR.2.2.1 hR.k hD.1 (rg_63_58 hI) (by have h8 := ((u7.2 63 58 (by omega)).trans (fr5 63 58 rfl)); omega) (u7.1.trans (by unfold pC1; split <;> omega)) (k0 := v3) (by have h8 := ((u7.2 63 58 (by omega)).trans (fr5 63 58 rfl)); unfold pC1; split <;> omega) (fun x hx q hq => (u7.2 x _ (by omega)).trans (((v4p.1 x hx).1 q (by omega)).trans ((rfl).trans (congrArg (M x) (by omega))))) (fun x hx k h0 hk q hq => (u7.2 x _ (by omega)).trans (((v4p.1 x hx).2 _ (by omega)).trans (rfl))) (CPk.of v4p.2 (fun c hc f => rfl) (fun c hc f => u7.2 c f (by omega)))⟩⟩
  · refine s_aload_n kx_227_9 rfl ?_
    refine s_aload_n kx_227_10 rfl ?_
    refine r_getI (k := 63) (f := 58) kx_227_11 kp_227_189 (tk_63 hT) kf_12_58 (fun _ => rfl) (rg_63_58 hI) (fun v9 v9e v9a v9b => ?_)
    refine s_iconst (v := 1) kx_227_14 (by decide) ?_
    refine r_add kx_227_15 ⟨by omega, by omega⟩ ?_
    refine s_bipush (v := 20) kx_227_16 (by decide) ?_
    refine r_irem kx_227_18 (by omega) (by omega) (by omega) (by omega) ?_
    refine r_put (k := 63) (f := 58) kx_227_19 kp_227_189 (tk_63 hT) kf_12_58 rfl (by decide) (by decide) hI (ru_63_58 (by omega) (by omega)) (fun M10 hI10 u10 => ?_)
    have hFm10 := hFm.up u10 rfl
    have hc11 := (RR.up hR u10 (by omega))
    refine s_aload_n kx_227_22 rfl ?_
    refine s_dup kx_227_23 rfl ?_
    refine r_getK (k := 63) (f := 59) kx_227_24 kp_227_192 (tk_63 hT) kf_12_59 (fun _ => rfl) ((u10.2 63 59 (by omega)).trans v1e) ?_
    refine s_iconst (v := 1) kx_227_27 (by decide) ?_
    refine r_sub kx_227_28 ⟨by omega, by omega⟩ ?_
    refine r_put (k := 63) (f := 59) kx_227_29 kp_227_192 (tk_63 hT) kf_12_59 rfl (by decide) (by decide) hI10 (ru_63_59 (by omega) (by omega)) (fun M12 hI12 u12 => ?_)
    have hFm12 := hFm10.up u12 rfl
    have hc13 := (RR.up hc11 u12 (by omega))
    refine s_aload_n kx_227_32 rfl ?_
    refine s_aload_n kx_227_33 rfl ?_
    refine s_aload_n kx_227_34 rfl ?_
    refine r_getK (k := 63) (f := 59) kx_227_35 kp_227_192 (tk_63 hT) kf_12_59 (fun _ => rfl) u12.1 ?_
    refine s_callV2 (k := 63) (s1 := 2) (s2 := 1) (as := [(0, (v1 - 1))]) (rest := [rf 63]) kx_227_38 kp_227_449 (Or.inl rfl) rfl (tk_63 hT) ki_226 kcl_226 rfl rfl (by decide) (g_226 (d := d) (k := (v1 - 1)) hT hI12 hc13 (by omega)) (kF (fun v14 v14p => ?_))
    have v14q := v14p.2.2
    have v14f := ((u12.2 63 58 (by omega)).trans u10.1)
    refine s_iconst (v := 0) kx_227_41 (by decide) ?_
    refine s_callV2 (k := 63) (s1 := 3) (s2 := 0) (as := [(0, 0), (0, v14)]) (rest := []) kx_227_42 kp_227_452 (Or.inl rfl) rfl (tk_63 hT) ki_224 kcl_224 rfl rfl (by decide) (g_224 (d := d) (to := v14) (from_ := 0) hT hI12 (by omega) (by omega) (zR_of92 hI12 (by omega)) (zR_of93 hI12 (by omega)) (by omega)) (kV (fun M16 hI16 fr16 v15p => ?_))
    have hFm16 := hFm12.call fr16 rfl
    have hc17 := RR.cpy hc13 fr16 rfl (fun x hx q hq => (v15p.1 x hx).2 q (by omega)) v15p.2 (by omega)
    refine s_aload_n kx_227_45 rfl ?_
    refine s_dup kx_227_46 rfl ?_
    refine r_getK (k := 63) (f := 59) kx_227_47 kp_227_192 (tk_63 hT) kf_12_59 (fun _ => rfl) ((fr16 63 59 rfl).trans u12.1) ?_
    refine s_iconst (v := 1) kx_227_50 (by decide) ?_
    refine r_add kx_227_51 ⟨by omega, by omega⟩ ?_
    refine r_put (k := 63) (f := 59) kx_227_52 kp_227_192 (tk_63 hT) kf_12_59 rfl (by decide) (by decide) hI16 (ru_63_59 (by omega) (by omega)) (fun M18 hI18 u18 => ?_)
    have hFm18 := hFm16.up u18 rfl
    have hc19 := (RR.up hc17 u18 (by omega))
    exact s_vret kx_227_55 kq_227 ⟨_, rfl, rfl, hI18, hFm18, ⟨hc19, RH.push hH hSW hR.2.2.1 hR.k hD.1 (rg_63_58 hI) (by have h8 := ((u18.2 63 58 (by omega)).trans ((fr16 63 58 rfl).trans ((u12.2 63 58 (by omega)).trans u10.1))); omega) (u18.1.trans (by unfold pC1; split <;> omega)) (k0 := v14) (by have h8 := ((u18.2 63 58 (by omega)).trans ((fr16 63 58 rfl).trans ((u12.2 63 58 (by omega)).trans u10.1))); unfold pC1; split <;> omega) (fun x hx q hq => (u18.2 x _ (by omega)).trans (((v15p.1 x hx).1 q (by omega)).trans (((u12.2 x _ (by omega)).trans ((u10.2 x _ (by omega)).trans (rfl))).trans (congrArg (M x) (by omega))))) (fun x hx k h0 hk q hq => (u18.2 x _ (by omega)).trans (((v15p.1 x hx).2 _ (by omega)).trans ((u12.2 x _ (by omega)).trans ((u10.2 x _ (by omega)).trans (rfl))))) (CPk.of v15p.2 (fun c hc f => (u12.2 c f (by omega)).trans ((u10.2 c f (by omega)).trans (rfl))) (fun c hc f => u18.2 c f (by omega)))⟩⟩
def gR_228_m : List (Nat × Nat) := [(100, 99999), (101, 99999), (63, 59), (91, 99999), (92, 99999), (93, 99999), (94, 99999), (95, 99999), (96, 99999), (97, 99999), (98, 99999), (99, 99999)]
theorem g_228 {xs : Nat → Int} {Ln d : Nat} {T : List cK} {M : cM} (hT : TT T) (hI : Rng M) {D S : cM} (hR : RR D S M) {H : Nat → cM} {hc : Int} (hH : RH D H hc M) : cC k_P xs Ln (d + 1) 228 [rf 63] (T, M) (qW T M gR_228_m 0 (fun v M1 => ((v = 0 ∧ hc = 0) ∧ RR D S M1 ∧ RH D H hc M1) ∨ ((v = 1 ∧ hc ≠ 0) ∧ RR D (pUn S (H 0)) M1 ∧ RH D (fun k => H (k + 1)) (hc - 1) M1))) := by
  show cP k_P xs Ln (d + 1) 228 0 [(0, rf 63)] [] (T, M) _
  have hFm : Fr gR_228_m M M := Fr.refl
  have hD := hR.2.1
  have hDr := hD.rg
  have hSW := hR.2.2.2.2.1
  have hHc := hH.1
  have hrr := rg_63_58 hI
  refine s_aload_n kx_228_0 rfl ?_
  refine r_getI (k := 63) (f := 59) kx_228_1 kp_228_192 (tk_63 hT) kf_12_59 (fun _ => rfl) (rg_63_59 hI) (fun v1 v1e v1a v1b => ?_)
  refine s_if_ne (t := 21) kx_228_4 (by decide) (fun hc2 => ?_) (fun hc2 => ?_)
  · refine s_aload_n kx_228_21 rfl ?_
    refine s_dup kx_228_22 rfl ?_
    refine r_getK (k := 63) (f := 59) kx_228_23 kp_228_192 (tk_63 hT) kf_12_59 (fun _ => rfl) v1e ?_
    refine s_iconst (v := 1) kx_228_26 (by decide) ?_
    refine r_sub kx_228_27 ⟨by omega, by omega⟩ ?_
    refine r_put (k := 63) (f := 59) kx_228_28 kp_228_192 (tk_63 hT) kf_12_59 rfl (by decide) (by decide) hI (ru_63_59 (by omega) (by omega)) (fun M3 hI3 u3 => ?_)
    have hFm3 := hFm.up u3 rfl
    refine s_aload_n kx_228_31 rfl ?_
    refine s_iconst (v := 0) kx_228_32 (by decide) ?_
    refine s_aload_n kx_228_33 rfl ?_
    refine s_aload_n kx_228_34 rfl ?_
    refine r_getK (k := 63) (f := 59) kx_228_35 kp_228_192 (tk_63 hT) kf_12_59 (fun _ => rfl) u3.1 ?_
    refine s_callV2 (k := 63) (s1 := 2) (s2 := 2) (as := [(0, (v1 - 1))]) (rest := [(0, 0), rf 63]) kx_228_38 kp_228_449 (Or.inl rfl) rfl (tk_63 hT) ki_226 kcl_226 rfl rfl (by decide) (g_226 (d := d) (k := (v1 - 1)) hT hI3 (RR.up hR u3 (by omega)) (by omega)) (kF (fun v4 v4p => ?_))
    have v4q := v4p.2.2
    have v4f := (u3.2 63 58 (by omega))
    refine s_callV2 (k := 63) (s1 := 3) (s2 := 0) (as := [(0, v4), (0, 0)]) (rest := []) kx_228_41 kp_228_452 (Or.inl rfl) rfl (tk_63 hT) ki_224 kcl_224 rfl rfl (by decide) (g_224 (d := d) (to := 0) (from_ := v4) hT hI3 (by omega) (by omega) (zR_of92 hI3 (by omega)) (zR_of93 hI3 (by omega)) (by omega)) (kV (fun M6 hI6 fr6 v5p => ?_))
    have hFm6 := hFm3.call fr6 rfl
    refine s_iconst (v := 1) kx_228_44 (by decide) ?_
    exact s_iret kx_228_45 (Or.inr ⟨kq_228, by omega⟩) ⟨_, _, rfl, rfl, hI6, hFm6, (Or.inr ⟨by omega, RR.pop hR hH (by omega) (k0 := v4) (by omega) (fun x hx q hq => ((congrArg (M6 x) (by omega)).trans (((v5p.1 x hx).1 q (by omega)).trans ((u3.2 x _ (by omega)).trans (rfl))))) ⟨(fr6 63 60 rfl).trans ((u3.2 63 60 (by omega)).trans (rfl)), (fr6 63 14 rfl).trans ((u3.2 63 14 (by omega)).trans (rfl))⟩ (fun k hk f => (fr6 k f (by simp at hk; rcases hk with rfl | rfl | rfl | rfl | rfl | rfl | rfl | rfl | rfl | rfl | rfl | rfl | rfl | rfl | rfl | rfl | rfl | rfl | rfl | rfl <;> rfl)).trans ((u3.2 k _ (by simp at hk; omega)).trans (rfl))) (CPk.of v5p.2 (fun c hc f => (u3.2 c f (by omega)).trans (rfl)) (fun c hc f => rfl)), RH.pop hH hD.1 (by omega) ((fr6 63 58 rfl).trans ((u3.2 63 58 (by omega)).trans (rfl))) (by have h9 := ((fr6 63 59 rfl).trans u3.1); omega) (fun x hx f hf => (((v5p.1 x hx).2 f (by omega)).trans ((u3.2 x f (by omega)).trans (rfl)))) (CPk.of v5p.2 (fun c hc f => (u3.2 c f (by omega)).trans (rfl)) (fun c hc f => rfl))⟩)⟩
  · refine s_aload_n kx_228_7 rfl ?_
    refine s_iconst (v := 4) kx_228_8 (by decide) ?_
    refine s_callV2 (k := 63) (s1 := 2) (s2 := 0) (as := [(0, 4)]) (rest := []) kx_228_9 kp_228_255 (Or.inl rfl) rfl (tk_63 hT) ki_218 kcl_218 rfl rfl (by decide) (m_218 (d := d) (kind := 4) hT hI (by omega)) (kW (fun v7 M8 hI8 fr8 v7p => ?_))
    have hFm8 := hFm.call fr8 rfl
    refine s_if_lt (t := 19) kx_228_12 (by decide) (fun hc9 => ?_) (fun hc9 => absurd hc9 (by omega))
    refine s_iconst (v := 0) kx_228_19 (by decide) ?_
    exact s_iret kx_228_20 (Or.inr ⟨kq_228, by omega⟩) ⟨_, _, rfl, rfl, hI8, hFm8, (Or.inl ⟨by omega, (RR.fr hR fr8 rfl), (RH.fr hH hD.1 fr8 rfl)⟩)⟩
def gR_260_m : List (Nat × Nat) := [(100, 99999), (101, 99999), (102, 99999), (63, 58), (63, 59), (63, 60), (63, 62), (63, 63), (63, 64), (91, 99999), (92, 99999), (93, 99999), (94, 99999), (95, 99999), (96, 99999), (97, 99999), (98, 99999), (99, 99999)]
theorem g_260 {xs : Nat → Int} {Ln d : Nat} {T : List cK} {M : cM} (hT : TT T) (hI : Rng M) {p r c : Int} {D S : cM} (hR : RR D S M) (hS : Sg M) {H : Nat → cM} {hc : Int} (hH : RH D H hc M) : cC k_P xs Ln (d + 6) 260 [rf 63, (0, p), (0, r), (0, c)] (T, M) (qW T M gR_260_m 0 (fun v M1 => ((v = -1 ∧ pCg D S p r c = 0) ∧ RR D S M1 ∧ RH D H hc M1) ∨ ((pCg D S p r c = 1 ∧ v = pMv D S p r c 4 p.toNat) ∧ RR D (pMv D S p r c) M1 ∧ RH D (pPh S H) (pC1 hc) M1))) := by
  show cP k_P xs Ln (d + 6) 260 0 [(0, rf 63), (1, (0, p)), (2, (0, r)), (3, (0, c))] [] (T, M) _
  have hFm : Fr gR_260_m M M := Fr.refl
  have hD := hR.2.1
  have hDr := hD.rg
  have hSW := hR.2.2.2.2.1
  refine s_aload_n kx_260_0 rfl ?_
  refine s_iload_n kx_260_1 rfl ?_
  refine s_iload_n kx_260_2 rfl ?_
  refine s_iload_n kx_260_3 rfl ?_
  refine s_callV2 (k := 63) (s1 := 4) (s2 := 0) (as := [(0, c), (0, r), (0, p)]) (rest := []) kx_260_4 kp_260_527 (Or.inl rfl) rfl (tk_63 hT) ki_253 kcl_253 rfl rfl (by decide) (g_253 (d := d) (p := p) (r := r) (c := c) hT hI hR) (kF (fun v1 v1p => ?_))
  refine s_if_ne (t := 16) kx_260_7 (by decide) (fun hc2 => ?_) (fun hc2 => ?_)
  · replace v1p := v1p.resolve_right (by omega)
    refine s_aload_n kx_260_16 rfl ?_
    refine s_callV2 (k := 63) (s1 := 1) (s2 := 0) (as := []) (rest := []) kx_260_17 kp_260_552 (Or.inl rfl) rfl (tk_63 hT) ki_227 kcl_227 rfl rfl (by decide) (g_227 (d := d + 4) hT hI hR hH) (kV (fun M4 hI4 fr4 v3p => ?_))
    have hFm4 := hFm.call fr4 rfl
    have hc5 := v3p.1
    have hc6 := v3p.2
    refine s_aload_n kx_260_20 rfl ?_
    refine s_iload_n kx_260_21 rfl ?_
    refine s_iload_n kx_260_22 rfl ?_
    refine s_iload_n kx_260_23 rfl ?_
    refine s_callV2 (k := 63) (s1 := 4) (s2 := 0) (as := [(0, c), (0, r), (0, p)]) (rest := []) kx_260_24 kp_260_555 (Or.inl rfl) rfl (tk_63 hT) ki_259 kcl_259 rfl rfl (by decide) (g_259 (d := d) (p := p) (r := r) (c := c) hT hI4 hc5 (hS.fr hFm4 rfl) hc6 (by omega) (by omega) (by omega) (by omega) (by omega) (by omega)) (kV (fun M8 hI8 fr8 v7p => ?_))
    have hFm8 := hFm4.call fr8 rfl
    have hc9 := v7p.1
    have hc10 := v7p.2
    refine s_aload_n kx_260_27 rfl ?_
    refine r_getR (k := 63) (f := 51) (k2 := 95) kx_260_28 kp_260_168 (tk_63 hT) kf_12_51 (by decide) (rq_63_51 hI8) ?_
    refine s_iload_n kx_260_31 rfl ?_
    refine r_aldU (k := 95) kx_260_32 (tk_95 hT) ⟨by omega, by omega⟩ (fun v11 v11e => ?_)
    have v11d := (RR.cl hc9 (p := p) ⟨by omega, by omega⟩ (by omega)).symm.trans v11e
    have v11w := (hc9).2.2.2.2.1.at (p := p) ⟨by omega, by omega⟩
    have v11i : 0 ≤ v11 ∧ v11 ≤ 99999 := by omega
    exact s_iret kx_260_33 (Or.inl kq_260) ⟨_, _, rfl, rfl, hI8, hFm8, (Or.inr ⟨⟨by omega, v11d.symm⟩, hc9, hc10⟩)⟩
  · replace v1p := v1p.resolve_left (by omega)
    refine s_aload_n kx_260_10 rfl ?_
    refine s_iconst (v := 2) kx_260_11 (by decide) ?_
    refine s_callV2 (k := 63) (s1 := 2) (s2 := 0) (as := [(0, 2)]) (rest := []) kx_260_12 kp_260_255 (Or.inl rfl) rfl (tk_63 hT) ki_218 kcl_218 rfl rfl (by decide) (m_218 (d := d + 5) (kind := 2) hT hI (by omega)) (kW (fun v12 M13 hI13 fr13 v12p => ?_))
    have hFm13 := hFm.call fr13 rfl
    have hc14 := (RR.fr hR fr13 rfl)
    have hc15 := (RH.fr hH hD.1 fr13 rfl)
    exact s_iret kx_260_15 (Or.inl kq_260) ⟨_, _, rfl, rfl, hI13, hFm13, (Or.inl ⟨by omega, hc14, hc15⟩)⟩
def gR_262_m : List (Nat × Nat) := [(100, 99999), (101, 99999), (102, 99999), (63, 58), (63, 59), (63, 62), (63, 63), (63, 64), (91, 99999), (92, 99999), (93, 99999), (94, 99999), (95, 99999), (96, 99999), (97, 99999), (98, 99999), (99, 99999)]
theorem g_262 {xs : Nat → Int} {Ln d : Nat} {T : List cK} {M : cM} (hT : TT T) (hI : Rng M) {p n : Int} {D S : cM} (hR : RR D S M) (hS : Sg M) {H : Nat → cM} {hc : Int} (hH : RH D H hc M) : cC k_P xs Ln (d + 5) 262 [rf 63, (0, p), (0, n)] (T, M) (qW T M gR_262_m 0 (fun v M1 => ((v = -1 ∧ ¬ (0 ≤ p ∧ p < D 0 1 ∧ 1 ≤ n ∧ n ≤ 999)) ∧ RR D S M1 ∧ RH D H hc M1) ∨ ((0 ≤ p ∧ p < D 0 1 ∧ 1 ≤ n ∧ n ≤ 999) ∧ RR D (pSp S p n) M1 ∧ RH D (pPh S H) (pC1 hc) M1))) := by
  show cP k_P xs Ln (d + 5) 262 0 [(0, rf 63), (1, (0, p)), (2, (0, n))] [] (T, M) _
  have hFm : Fr gR_262_m M M := Fr.refl
  have hD := hR.2.1
  have hDr := hD.rg
  have hSW := hR.2.2.2.2.1
  refine s_aload_n kx_262_0 rfl ?_
  refine s_iload_n kx_262_1 rfl ?_
  refine s_callV2 (k := 63) (s1 := 2) (s2 := 0) (as := [(0, p)]) (rest := []) kx_262_2 kp_262_514 (Or.inl rfl) rfl (tk_63 hT) ki_221 kcl_221 rfl rfl (by decide) (g_221 (d := d + 4) (p := p) hT hI hR) (kF (fun v1 v1p => ?_))
  refine s_if_eq (t := 19) kx_262_5 (by decide) (fun hc2 => ?_) (fun hc2 => ?_)
  · replace v1p := v1p.resolve_left (by omega)
    refine s_aload_n kx_262_19 rfl ?_
    refine s_iconst (v := 2) kx_262_20 (by decide) ?_
    refine s_callV2 (k := 63) (s1 := 2) (s2 := 0) (as := [(0, 2)]) (rest := []) kx_262_21 kp_262_255 (Or.inl rfl) rfl (tk_63 hT) ki_218 kcl_218 rfl rfl (by decide) (m_218 (d := d + 4) (kind := 2) hT hI (by omega)) (kW (fun v3 M4 hI4 fr4 v3p => ?_))
    have hFm4 := hFm.call fr4 rfl
    have hc5 := (RR.fr hR fr4 rfl)
    have hc6 := (RH.fr hH hD.1 fr4 rfl)
    exact s_iret kx_262_24 (Or.inl kq_262) ⟨_, _, rfl, rfl, hI4, hFm4, (Or.inl ⟨by omega, hc5, hc6⟩)⟩
  · replace v1p := v1p.resolve_right (by omega)
    refine s_iload_n kx_262_8 rfl ?_
    refine s_iconst (v := 1) kx_262_9 (by decide) ?_
    refine s_sipush (v := 999) kx_262_10 (by decide) ?_
    refine s_callS2 (s1 := 3) (s2 := 0) (as := [(0, 999), (0, 1), (0, n)]) (rest := []) kx_262_13 kp_262_345 rfl kcl_172 rfl rfl (by decide) (m_172 (d := d + 4) (v_ := n) (least := 1) (most := 999) hT hI) (kF (fun v7 v7p => ?_))
    refine s_if_ne (t := 25) kx_262_16 (by decide) (fun hc8 => ?_) (fun hc8 => ?_)
    · replace v7p := v7p.resolve_right (by omega)
      refine s_aload_n kx_262_25 rfl ?_
      refine s_callV2 (k := 63) (s1 := 1) (s2 := 0) (as := []) (rest := []) kx_262_26 kp_262_552 (Or.inl rfl) rfl (tk_63 hT) ki_227 kcl_227 rfl rfl (by decide) (g_227 (d := d + 3) hT hI hR hH) (kV (fun M10 hI10 fr10 v9p => ?_))
      have hFm10 := hFm.call fr10 rfl
      have hc11 := v9p.1
      have hc12 := v9p.2
      refine s_aload_n kx_262_29 rfl ?_
      refine s_iload_n kx_262_30 rfl ?_
      refine s_iload_n kx_262_31 rfl ?_
      refine s_callV2 (k := 63) (s1 := 3) (s2 := 0) (as := [(0, n), (0, p)]) (rest := []) kx_262_32 kp_262_562 (Or.inl rfl) rfl (tk_63 hT) ki_261 kcl_261 rfl rfl (by decide) (g_261 (d := d) (p := p) (n := n) hT hI10 hc11 (hS.fr hFm10 rfl) hc12 (by omega) (by omega) (by omega)) (kV (fun M14 hI14 fr14 v13p => ?_))
      have hFm14 := hFm10.call fr14 rfl
      have hc15 := v13p.1
      have hc16 := v13p.2
      refine s_aload_n kx_262_35 rfl ?_
      refine r_getR (k := 63) (f := 52) (k2 := 96) kx_262_36 kp_262_171 (tk_63 hT) kf_12_52 (by decide) (rq_63_52 hI14) ?_
      refine s_iload_n kx_262_39 rfl ?_
      refine r_aldU (k := 96) kx_262_40 (tk_96 hT) ⟨by omega, by omega⟩ (fun v17 v17e => ?_)
      exact s_iret kx_262_41 (Or.inl kq_262) ⟨_, _, rfl, rfl, hI14, hFm14, (Or.inr ⟨by omega, hc15, hc16⟩)⟩
    · replace v7p := v7p.resolve_left (by omega)
      refine s_aload_n kx_262_19 rfl ?_
      refine s_iconst (v := 2) kx_262_20 (by decide) ?_
      refine s_callV2 (k := 63) (s1 := 2) (s2 := 0) (as := [(0, 2)]) (rest := []) kx_262_21 kp_262_255 (Or.inl rfl) rfl (tk_63 hT) ki_218 kcl_218 rfl rfl (by decide) (m_218 (d := d + 4) (kind := 2) hT hI (by omega)) (kW (fun v18 M19 hI19 fr19 v18p => ?_))
      have hFm19 := hFm.call fr19 rfl
      have hc20 := (RR.fr hR fr19 rfl)
      have hc21 := (RH.fr hH hD.1 fr19 rfl)
      exact s_iret kx_262_24 (Or.inl kq_262) ⟨_, _, rfl, rfl, hI19, hFm19, (Or.inl ⟨by omega, hc20, hc21⟩)⟩
def gR_263_m : List (Nat × Nat) := [(100, 99999), (101, 99999), (63, 58), (63, 59), (91, 99999), (92, 99999), (93, 99999), (94, 99999), (95, 99999), (96, 99999), (97, 99999), (98, 99999), (99, 99999)]
theorem g_263 {xs : Nat → Int} {Ln d : Nat} {T : List cK} {M : cM} (hT : TT T) (hI : Rng M) {p c : Int} {D S : cM} (hR : RR D S M) {H : Nat → cM} {hc : Int} (hH : RH D H hc M) : cC k_P xs Ln (d + 2) 263 [rf 63, (0, p), (0, c)] (T, M) (qW T M gR_263_m 0 (fun v M1 => ((v = 0 ∧ pCm D S p c = 0) ∧ RR D S M1 ∧ RH D H hc M1) ∨ ((v = 1 ∧ pCm D S p c = 1) ∧ RR D (pSp (c_up S 2 c.toNat 0) p 30) M1 ∧ RH D (pPh S H) (pC1 hc) M1))) := by
  show cP k_P xs Ln (d + 2) 263 0 [(0, rf 63), (1, (0, p)), (2, (0, c))] [] (T, M) _
  have hFm : Fr gR_263_m M M := Fr.refl
  have hD := hR.2.1
  have hDr := hD.rg
  have hSW := hR.2.2.2.2.1
  refine s_aload_n kx_263_0 rfl ?_
  refine s_iload_n kx_263_1 rfl ?_
  refine s_callV2 (k := 63) (s1 := 2) (s2 := 0) (as := [(0, p)]) (rest := []) kx_263_2 kp_263_514 (Or.inl rfl) rfl (tk_63 hT) ki_221 kcl_221 rfl rfl (by decide) (g_221 (d := d + 1) (p := p) hT hI hR) (kF (fun v1 v1p => ?_))
  refine s_if_eq (t := 79) kx_263_5 (by decide) (fun hc2 => ?_) (fun hc2 => ?_)
  · replace v1p := v1p.resolve_left (by omega)
    refine s_iconst (v := 0) kx_263_79 (by decide) ?_
    refine s_istore_n kx_263_80 km_263_3 rfl ?_
    refine s_iload_n kx_263_81 rfl ?_
    refine s_if_ne (t := 99) kx_263_82 (by decide) (fun hc3 => absurd hc3 (by decide)) (fun hc3 => ?_)
    refine s_aload_n kx_263_85 rfl ?_
    refine s_iconst (v := 3) kx_263_86 (by decide) ?_
    refine s_callV2 (k := 63) (s1 := 2) (s2 := 0) (as := [(0, 3)]) (rest := []) kx_263_87 kp_263_255 (Or.inl rfl) rfl (tk_63 hT) ki_218 kcl_218 rfl rfl (by decide) (m_218 (d := d + 1) (kind := 3) hT hI (by omega)) (kW (fun v4 M5 hI5 fr5 v4p => ?_))
    have hFm5 := hFm.call fr5 rfl
    have hc6 := (RR.fr hR fr5 rfl)
    have hc7 := (RH.fr hH hD.1 fr5 rfl)
    refine s_if_lt (t := 97) kx_263_90 (by decide) (fun hc8 => ?_) (fun hc8 => absurd hc8 (by omega))
    refine s_iconst (v := 0) kx_263_97 (by decide) ?_
    exact s_iret kx_263_98 (Or.inr ⟨kq_263, by omega⟩) ⟨_, _, rfl, rfl, hI5, hFm5, (Or.inl ⟨⟨by omega, by unfold pCm; exact if_neg (by omega)⟩, hc6, hc7⟩)⟩
  · replace v1p := v1p.resolve_right (by omega)
    refine s_aload_n kx_263_8 rfl ?_
    refine s_iload_n kx_263_9 rfl ?_
    refine s_callV2 (k := 63) (s1 := 2) (s2 := 0) (as := [(0, c)]) (rest := []) kx_263_10 kp_263_514 (Or.inl rfl) rfl (tk_63 hT) ki_221 kcl_221 rfl rfl (by decide) (g_221 (d := d + 1) (p := c) hT hI hR) (kF (fun v9 v9p => ?_))
    refine s_if_eq (t := 79) kx_263_13 (by decide) (fun hc10 => ?_) (fun hc10 => ?_)
    · replace v9p := v9p.resolve_left (by omega)
      refine s_iconst (v := 0) kx_263_79 (by decide) ?_
      refine s_istore_n kx_263_80 km_263_3 rfl ?_
      refine s_iload_n kx_263_81 rfl ?_
      refine s_if_ne (t := 99) kx_263_82 (by decide) (fun hc11 => absurd hc11 (by decide)) (fun hc11 => ?_)
      refine s_aload_n kx_263_85 rfl ?_
      refine s_iconst (v := 3) kx_263_86 (by decide) ?_
      refine s_callV2 (k := 63) (s1 := 2) (s2 := 0) (as := [(0, 3)]) (rest := []) kx_263_87 kp_263_255 (Or.inl rfl) rfl (tk_63 hT) ki_218 kcl_218 rfl rfl (by decide) (m_218 (d := d + 1) (kind := 3) hT hI (by omega)) (kW (fun v12 M13 hI13 fr13 v12p => ?_))
      have hFm13 := hFm.call fr13 rfl
      have hc14 := (RR.fr hR fr13 rfl)
      have hc15 := (RH.fr hH hD.1 fr13 rfl)
      refine s_if_lt (t := 97) kx_263_90 (by decide) (fun hc16 => ?_) (fun hc16 => absurd hc16 (by omega))
      refine s_iconst (v := 0) kx_263_97 (by decide) ?_
      exact s_iret kx_263_98 (Or.inr ⟨kq_263, by omega⟩) ⟨_, _, rfl, rfl, hI13, hFm13, (Or.inl ⟨⟨by omega, by unfold pCm; exact if_neg (by omega)⟩, hc14, hc15⟩)⟩
    · replace v9p := v9p.resolve_right (by omega)
      refine s_aload_n kx_263_16 rfl ?_
      refine r_getR (k := 63) (f := 30) (k2 := 80) kx_263_17 kp_263_102 (tk_63 hT) kf_12_30 (by decide) (rq_63_30 hI) ?_
      refine s_aload_n kx_263_20 rfl ?_
      refine r_getI (k := 63) (f := 14) kx_263_21 kp_263_54 (tk_63 hT) kf_12_14 (fun _ => rfl) (rg_63_14 hI) (fun v17 v17e v17a v17b => ?_)
      refine r_aldU (k := 80) kx_263_24 (tk_80 hT) ⟨by omega, by omega⟩ (fun v18 v18e => ?_)
      have v18d : D 0 3 = v18 := by have h9 := (hR).1.2.2.2.1; rw [v17e] at h9; exact h9.symm.trans v18e
      refine s_iconst (v := (-1)) kx_263_25 (by decide) ?_
      refine s_icmp_eq (t := 79) kx_263_26 (by decide) (fun hc19 => ?_) (fun hc19 => ?_)
      · refine s_iconst (v := 0) kx_263_79 (by decide) ?_
        refine s_istore_n kx_263_80 km_263_3 rfl ?_
        refine s_iload_n kx_263_81 rfl ?_
        refine s_if_ne (t := 99) kx_263_82 (by decide) (fun hc20 => absurd hc20 (by decide)) (fun hc20 => ?_)
        refine s_aload_n kx_263_85 rfl ?_
        refine s_iconst (v := 3) kx_263_86 (by decide) ?_
        refine s_callV2 (k := 63) (s1 := 2) (s2 := 0) (as := [(0, 3)]) (rest := []) kx_263_87 kp_263_255 (Or.inl rfl) rfl (tk_63 hT) ki_218 kcl_218 rfl rfl (by decide) (m_218 (d := d + 1) (kind := 3) hT hI (by omega)) (kW (fun v21 M22 hI22 fr22 v21p => ?_))
        have hFm22 := hFm.call fr22 rfl
        have hc23 := (RR.fr hR fr22 rfl)
        have hc24 := (RH.fr hH hD.1 fr22 rfl)
        refine s_if_lt (t := 97) kx_263_90 (by decide) (fun hc25 => ?_) (fun hc25 => absurd hc25 (by omega))
        refine s_iconst (v := 0) kx_263_97 (by decide) ?_
        exact s_iret kx_263_98 (Or.inr ⟨kq_263, by omega⟩) ⟨_, _, rfl, rfl, hI22, hFm22, (Or.inl ⟨⟨by omega, by unfold pCm; exact if_neg (by omega)⟩, hc23, hc24⟩)⟩
      · refine s_aload_n kx_263_29 rfl ?_
        refine r_getR (k := 63) (f := 48) (k2 := 92) kx_263_30 kp_263_159 (tk_63 hT) kf_12_48 (by decide) (rq_63_48 hI) ?_
        refine s_iload_n kx_263_33 rfl ?_
        refine r_ald (k := 92) kx_263_34 (tk_92 hT) ⟨by omega, by omega⟩ (rg_92 hI (by omega)) (fun v26 v26e v26a v26b => ?_)
        have v26d := (RR.rm hR (p := p) ⟨by omega, by omega⟩ (by omega)).symm.trans v26e
        have v26w := (hR).2.2.2.2.1.at (p := p) ⟨by omega, by omega⟩
        refine s_aload_n kx_263_35 rfl ?_
        refine r_getR (k := 63) (f := 30) (k2 := 80) kx_263_36 kp_263_102 (tk_63 hT) kf_12_30 (by decide) (rq_63_30 hI) ?_
        refine s_aload_n kx_263_39 rfl ?_
        refine r_getK (k := 63) (f := 14) kx_263_40 kp_263_54 (tk_63 hT) kf_12_14 (fun _ => rfl) v17e ?_
        refine r_aldK (k := 80) kx_263_43 (tk_80 hT) ⟨by omega, by omega⟩ v18e ?_
        refine s_icmp_ne (t := 79) kx_263_44 (by decide) (fun hc27 => ?_) (fun hc27 => ?_)
        · refine s_iconst (v := 0) kx_263_79 (by decide) ?_
          refine s_istore_n kx_263_80 km_263_3 rfl ?_
          refine s_iload_n kx_263_81 rfl ?_
          refine s_if_ne (t := 99) kx_263_82 (by decide) (fun hc28 => absurd hc28 (by decide)) (fun hc28 => ?_)
          refine s_aload_n kx_263_85 rfl ?_
          refine s_iconst (v := 3) kx_263_86 (by decide) ?_
          refine s_callV2 (k := 63) (s1 := 2) (s2 := 0) (as := [(0, 3)]) (rest := []) kx_263_87 kp_263_255 (Or.inl rfl) rfl (tk_63 hT) ki_218 kcl_218 rfl rfl (by decide) (m_218 (d := d + 1) (kind := 3) hT hI (by omega)) (kW (fun v29 M30 hI30 fr30 v29p => ?_))
          have hFm30 := hFm.call fr30 rfl
          have hc31 := (RR.fr hR fr30 rfl)
          have hc32 := (RH.fr hH hD.1 fr30 rfl)
          refine s_if_lt (t := 97) kx_263_90 (by decide) (fun hc33 => ?_) (fun hc33 => absurd hc33 (by omega))
          refine s_iconst (v := 0) kx_263_97 (by decide) ?_
          exact s_iret kx_263_98 (Or.inr ⟨kq_263, by omega⟩) ⟨_, _, rfl, rfl, hI30, hFm30, (Or.inl ⟨⟨by omega, by unfold pCm; exact if_neg (by omega)⟩, hc31, hc32⟩)⟩
        · refine s_aload_n kx_263_47 rfl ?_
          refine r_getR (k := 63) (f := 49) (k2 := 93) kx_263_48 kp_263_162 (tk_63 hT) kf_12_49 (by decide) (rq_63_49 hI) ?_
          refine s_iload_n kx_263_51 rfl ?_
          refine r_ald (k := 93) kx_263_52 (tk_93 hT) ⟨by omega, by omega⟩ (rg_93 hI (by omega)) (fun v34 v34e v34a v34b => ?_)
          have v34d := (RR.ch hR (p := c) ⟨by omega, by omega⟩ (by omega)).symm.trans v34e
          have v34w := (hR).2.2.2.2.1.at (p := c) ⟨by omega, by omega⟩
          refine s_aload_n kx_263_53 rfl ?_
          refine r_getR (k := 63) (f := 30) (k2 := 80) kx_263_54 kp_263_102 (tk_63 hT) kf_12_30 (by decide) (rq_63_30 hI) ?_
          refine s_aload_n kx_263_57 rfl ?_
          refine r_getK (k := 63) (f := 14) kx_263_58 kp_263_54 (tk_63 hT) kf_12_14 (fun _ => rfl) v17e ?_
          refine r_aldK (k := 80) kx_263_61 (tk_80 hT) ⟨by omega, by omega⟩ v18e ?_
          refine s_icmp_ne (t := 79) kx_263_62 (by decide) (fun hc35 => ?_) (fun hc35 => ?_)
          · refine s_iconst (v := 0) kx_263_79 (by decide) ?_
            refine s_istore_n kx_263_80 km_263_3 rfl ?_
            refine s_iload_n kx_263_81 rfl ?_
            refine s_if_ne (t := 99) kx_263_82 (by decide) (fun hc36 => absurd hc36 (by decide)) (fun hc36 => ?_)
            refine s_aload_n kx_263_85 rfl ?_
            refine s_iconst (v := 3) kx_263_86 (by decide) ?_
            refine s_callV2 (k := 63) (s1 := 2) (s2 := 0) (as := [(0, 3)]) (rest := []) kx_263_87 kp_263_255 (Or.inl rfl) rfl (tk_63 hT) ki_218 kcl_218 rfl rfl (by decide) (m_218 (d := d + 1) (kind := 3) hT hI (by omega)) (kW (fun v37 M38 hI38 fr38 v37p => ?_))
            have hFm38 := hFm.call fr38 rfl
            have hc39 := (RR.fr hR fr38 rfl)
            have hc40 := (RH.fr hH hD.1 fr38 rfl)
            refine s_if_lt (t := 97) kx_263_90 (by decide) (fun hc41 => ?_) (fun hc41 => absurd hc41 (by omega))
            refine s_iconst (v := 0) kx_263_97 (by decide) ?_
            exact s_iret kx_263_98 (Or.inr ⟨kq_263, by omega⟩) ⟨_, _, rfl, rfl, hI38, hFm38, (Or.inl ⟨⟨by omega, by unfold pCm; exact if_neg (by omega)⟩, hc39, hc40⟩)⟩
          · refine s_aload_n kx_263_65 rfl ?_
            refine r_getR (k := 63) (f := 50) (k2 := 94) kx_263_66 kp_263_165 (tk_63 hT) kf_12_50 (by decide) (rq_63_50 hI) ?_
            refine s_iload_n kx_263_69 rfl ?_
            refine r_aldU (k := 94) kx_263_70 (tk_94 hT) ⟨by omega, by omega⟩ (fun v42 v42e => ?_)
            have v42d := (RR.br hR (p := c) ⟨by omega, by omega⟩ (by omega)).symm.trans v42e
            have v42w := (hR).2.2.2.2.1.at (p := c) ⟨by omega, by omega⟩
            refine s_iconst (v := 1) kx_263_71 (by decide) ?_
            refine s_icmp_ne (t := 79) kx_263_72 (by decide) (fun hc43 => ?_) (fun hc43 => ?_)
            · refine s_iconst (v := 0) kx_263_79 (by decide) ?_
              refine s_istore_n kx_263_80 km_263_3 rfl ?_
              refine s_iload_n kx_263_81 rfl ?_
              refine s_if_ne (t := 99) kx_263_82 (by decide) (fun hc44 => absurd hc44 (by decide)) (fun hc44 => ?_)
              refine s_aload_n kx_263_85 rfl ?_
              refine s_iconst (v := 3) kx_263_86 (by decide) ?_
              refine s_callV2 (k := 63) (s1 := 2) (s2 := 0) (as := [(0, 3)]) (rest := []) kx_263_87 kp_263_255 (Or.inl rfl) rfl (tk_63 hT) ki_218 kcl_218 rfl rfl (by decide) (m_218 (d := d + 1) (kind := 3) hT hI (by omega)) (kW (fun v45 M46 hI46 fr46 v45p => ?_))
              have hFm46 := hFm.call fr46 rfl
              have hc47 := (RR.fr hR fr46 rfl)
              have hc48 := (RH.fr hH hD.1 fr46 rfl)
              refine s_if_lt (t := 97) kx_263_90 (by decide) (fun hc49 => ?_) (fun hc49 => absurd hc49 (by omega))
              refine s_iconst (v := 0) kx_263_97 (by decide) ?_
              exact s_iret kx_263_98 (Or.inr ⟨kq_263, by omega⟩) ⟨_, _, rfl, rfl, hI46, hFm46, (Or.inl ⟨⟨by omega, by unfold pCm; exact if_neg (by omega)⟩, hc47, hc48⟩)⟩
            · refine s_iconst (v := 1) kx_263_75 (by decide) ?_
              refine s_goto (t := 80) kx_263_76 (by decide) ?_
              refine s_istore_n kx_263_80 km_263_3 rfl ?_
              refine s_iload_n kx_263_81 rfl ?_
              refine s_if_ne (t := 99) kx_263_82 (by decide) (fun hc50 => ?_) (fun hc50 => absurd hc50 (by decide))
              refine s_aload_n kx_263_99 rfl ?_
              refine s_callV2 (k := 63) (s1 := 1) (s2 := 0) (as := []) (rest := []) kx_263_100 kp_263_552 (Or.inl rfl) rfl (tk_63 hT) ki_227 kcl_227 rfl rfl (by decide) (g_227 (d := d) hT hI hR hH) (kV (fun M52 hI52 fr52 v51p => ?_))
              have hFm52 := hFm.call fr52 rfl
              have hc53 := v51p.1
              have hc54 := v51p.2
              refine s_aload_n kx_263_103 rfl ?_
              refine r_getR (k := 63) (f := 50) (k2 := 94) kx_263_104 kp_263_165 (tk_63 hT) kf_12_50 (by decide) (rq_63_50 hI52) ?_
              refine s_iload_n kx_263_107 rfl ?_
              refine s_iconst (v := 0) kx_263_108 (by decide) ?_
              refine r_ast (k := 94) kx_263_109 (tk_94 hT) ⟨by omega, by omega⟩ hI52 ru_94 (fun M55 hI55 u55 => ?_)
              have hFm55 := hFm52.up u55 rfl
              have hc56 := (RR.u2 hc53 u55 (p := c) ⟨by omega, by omega⟩ (by omega) (by omega))
              have hc57 := (RH.up hc54 hD.1 u55 (by omega))
              refine s_aload_n kx_263_110 rfl ?_
              refine s_iload_n kx_263_111 rfl ?_
              refine s_bipush (v := 30) kx_263_112 (by decide) ?_
              refine s_callV2 (k := 63) (s1 := 3) (s2 := 0) (as := [(0, 30), (0, p)]) (rest := []) kx_263_114 kp_263_542 (Or.inl rfl) rfl (tk_63 hT) ki_258 kcl_258 rfl rfl (by decide) (g_258 (d := d + 1) (p := p) (n := 30) hT hI55 hc56 hc57 (by omega) (by omega) (by omega)) (kV (fun M59 hI59 fr59 v58p => ?_))
              have hFm59 := hFm55.call fr59 rfl
              have hc60 := v58p.1
              have hc61 := v58p.2
              refine s_iconst (v := 1) kx_263_117 (by decide) ?_
              exact s_iret kx_263_118 (Or.inr ⟨kq_263, by omega⟩) ⟨_, _, rfl, rfl, hI59, hFm59, (Or.inr ⟨⟨by omega, by unfold pCm; exact if_pos (by omega)⟩, hc60, hc61⟩)⟩
def gR_267_m : List (Nat × Nat) := [(63, 60), (91, 99999)]
theorem g_267 {xs : Nat → Int} {Ln d : Nat} {T : List cK} {M : cM} (hT : TT T) (hI : Rng M) {v_ : Int} {D S : cM} (hR : RR D S M) {H : Nat → cM} {hc : Int} (hH : RH D H hc M) (p0 : v_ ≤ 2147483647) : cC k_P xs Ln (d + 1) 267 [rf 63, (0, v_)] (T, M) (qW T M gR_267_m 0 (fun v M1 => ((v = 0 ∧ v_ < 0) ∧ RR D S M1 ∧ RH D H hc M1) ∨ ((v = 1 ∧ 0 ≤ v_) ∧ RR D (c_up S 3 0 v_) M1 ∧ RH D H hc M1))) := by
  show cP k_P xs Ln (d + 1) 267 0 [(0, rf 63), (1, (0, v_))] [] (T, M) _
  have hFm : Fr gR_267_m M M := Fr.refl
  have hD := hR.2.1
  have hDr := hD.rg
  have hSW := hR.2.2.2.2.1
  refine s_iload_n kx_267_0 rfl ?_
  refine s_if_ge (t := 18) kx_267_1 (by decide) (fun hc1 => ?_) (fun hc1 => ?_)
  · refine s_aload_n kx_267_18 rfl ?_
    refine s_iload_n kx_267_19 rfl ?_
    refine s_i2l kx_267_20 ?_
    refine r_put (k := 63) (f := 60) kx_267_21 kp_267_195 (tk_63 hT) kf_12_60 rfl (by decide) (by decide) hI (ru_63_60 (by omega) (by omega)) (fun M2 hI2 u2 => ?_)
    have hFm2 := hFm.up u2 rfl
    have hc3 := (RR.u3 hR u2)
    have hc4 := (RH.up hH hD.1 u2 (by omega))
    refine s_iconst (v := 1) kx_267_24 (by decide) ?_
    exact s_iret kx_267_25 (Or.inr ⟨kq_267, by omega⟩) ⟨_, _, rfl, rfl, hI2, hFm2, (Or.inr ⟨by omega, hc3, hc4⟩)⟩
  · refine s_aload_n kx_267_4 rfl ?_
    refine s_iconst (v := 5) kx_267_5 (by decide) ?_
    refine s_callV2 (k := 63) (s1 := 2) (s2 := 0) (as := [(0, 5)]) (rest := []) kx_267_6 kp_267_255 (Or.inl rfl) rfl (tk_63 hT) ki_218 kcl_218 rfl rfl (by decide) (m_218 (d := d) (kind := 5) hT hI (by omega)) (kW (fun v5 M6 hI6 fr6 v5p => ?_))
    have hFm6 := hFm.call fr6 rfl
    have hc7 := (RR.fr hR fr6 rfl)
    have hc8 := (RH.fr hH hD.1 fr6 rfl)
    refine s_if_lt (t := 16) kx_267_9 (by decide) (fun hc9 => ?_) (fun hc9 => absurd hc9 (by omega))
    refine s_iconst (v := 0) kx_267_16 (by decide) ?_
    exact s_iret kx_267_17 (Or.inr ⟨kq_267, by omega⟩) ⟨_, _, rfl, rfl, hI6, hFm6, (Or.inl ⟨by omega, hc7, hc8⟩)⟩
theorem g_264 {xs : Nat → Int} {Ln d : Nat} {T : List cK} {M : cM} (hT : TT T) (hI : Rng M) {from_ k : Int} {D S : cM} (hR : RR D S M) (p0 : 0 ≤ from_ ∧ from_ ≤ 7) (p1 : 0 ≤ k ∧ k ≤ 7) (p2 : from_ < D 0 0) (p3 : k < pNb D from_ (D 0 0).toNat) : cC k_P xs Ln (d + 1) 264 [rf 63, (0, from_), (0, k)] (T, M) (qF T M 0 (fun v => 0 ≤ v ∧ v ≤ 7 ∧ (v = pNt D from_ k (D 0 0).toNat ∧ v < D 0 0))) := by
  show cP k_P xs Ln (d + 1) 264 0 [(0, rf 63), (1, (0, from_)), (2, (0, k))] [] (T, M) _
  have hD := hR.2.1
  have hDr := hD.rg
  have hSW := hR.2.2.2.2.1
  refine s_iload_n kx_264_0 rfl ?_
  refine s_istore_n kx_264_1 km_264_3 rfl ?_
  refine s_iconst (v := 0) kx_264_2 (by decide) ?_
  refine s_istore kx_264_3 km_264_4 rfl ?_
  have key3 : ∀ n4 : Nat, ∀ (x3_1 x4_2 : Int), (0 ≤ x3_1) → (x3_1 ≤ 7) → (0 ≤ x4_2) → (x3_1 = k - pNb D from_ (x4_2).toNat) → (x4_2 ≤ D 0 0) → (2147483647 - x4_2).toNat < n4 → cP k_P xs Ln (d + 1) 264 5 [(0, rf 63), (1, (0, from_)), (3, (0, x3_1)), (4, (0, x4_2))] [] (T, M) (qF T M 0 (fun v => 0 ≤ v ∧ v ≤ 7 ∧ (v = pNt D from_ k (D 0 0).toNat ∧ v < D 0 0))) := by
    intro n4
    induction n4 with
    | zero => intro x3_1 x4_2 i5 i6 i7 i8 i9 hm10; exact absurd hm10 (Nat.not_lt_zero _)
    | succ n4 ih11 =>
      intro x3_1 x4_2 i5 i6 i7 i8 i9 hm10
      refine s_iload kx_264_5 rfl ?_
      refine s_aload_n kx_264_7 rfl ?_
      refine r_getR (k := 63) (f := 15) (k2 := 65) kx_264_8 kp_264_57 (tk_63 hT) kf_12_15 (by decide) (rq_63_15 hI) ?_
      refine s_aload_n kx_264_11 rfl ?_
      refine r_getI (k := 63) (f := 14) kx_264_12 kp_264_54 (tk_63 hT) kf_12_14 (fun _ => rfl) (rg_63_14 hI) (fun v12 v12e v12a v12b => ?_)
      refine r_ald (k := 65) kx_264_15 (tk_65 hT) ⟨by omega, by omega⟩ (rg_65 hI) (fun v13 v13e v13a v13b => ?_)
      have v13d : D 0 0 = v13 := by have h9 := (hR).1.1; rw [v12e] at h9; exact h9.symm.trans v13e
      refine s_icmp_ge (t := 48) kx_264_16 (by decide) (fun hc14 => ?_) (fun hc14 => ?_)
      · refine s_iconst (v := (-1)) kx_264_48 (by decide) ?_
        exfalso
        rw [show D 0 0 = x4_2 by omega] at p3
        omega
      · refine s_aload_n kx_264_19 rfl ?_
        refine s_iload_n kx_264_20 rfl ?_
        refine s_iload kx_264_21 rfl ?_
        refine s_callV2 (k := 63) (s1 := 3) (s2 := 0) (as := [(0, x4_2), (0, from_)]) (rest := []) kx_264_23 kp_264_511 (Or.inl rfl) rfl (tk_63 hT) ki_245 kcl_245 rfl rfl (by decide) (g_245 (d := d) (a := from_) (b := x4_2) hT hI hR (by omega) (by omega) (by omega) (by omega)) (kF (fun v15 v15p => ?_))
        have hst := @pNb_step D from_ x4_2 (by omega)
        have v15q := v15p.2.2
        refine s_if_ne (t := 32) kx_264_26 (by decide) (fun hc16 => ?_) (fun hc16 => ?_)
        · refine s_iload_n kx_264_32 rfl ?_
          refine s_if_ne (t := 39) kx_264_33 (by decide) (fun hc17 => ?_) (fun hc17 => ?_)
          · refine r_iinc kx_264_39 rfl km_264_3 (by decide) ⟨by omega, by omega⟩ rfl ?_
            refine r_iinc kx_264_42 rfl km_264_4 (by decide) ⟨by omega, by omega⟩ rfl ?_
            refine s_goto (t := 5) kx_264_45 (by decide) ?_
            exact cP.wk (lS1 rfl (lS1 rfl (lS1 rfl (lS1 rfl lS0)))) (ih11 (x3_1 + (-1)) (x4_2 + 1) (by omega) (by omega) (by omega) (by omega) (by omega) (by omega))
          · refine s_iload kx_264_36 rfl ?_
            exact s_iret kx_264_38 (Or.inl kq_264) ⟨_, rfl, rfl, ⟨by omega, by omega, (pNt_eq (by omega) (by omega) (by omega) _ (by omega)).symm, by omega⟩⟩
        · refine s_goto (t := 42) kx_264_29 (by decide) ?_
          refine r_iinc kx_264_42 rfl km_264_4 (by decide) ⟨by omega, by omega⟩ rfl ?_
          refine s_goto (t := 5) kx_264_45 (by decide) ?_
          exact cP.wk (lS1 rfl (lS1 rfl (lS1 rfl (lS1 rfl lS0)))) (ih11 x3_1 (x4_2 + 1) (by omega) (by omega) (by omega) (by omega) (by omega) (by omega))
  have hz : pNb D from_ (0 : Int).toNat = 0 := rfl
  exact cP.wk (lS1 rfl (lS1 rfl (lS1 rfl (lS1 rfl lS0)))) (key3 _ k 0 (by omega) (by omega) (by omega) (by omega) (by omega) (Nat.lt_succ_self _))
def gR_265_m : List (Nat × Nat) := [(100, 99999), (101, 99999), (102, 99999), (63, 60), (63, 62), (63, 63), (63, 64), (92, 99999), (93, 99999), (94, 99999), (95, 99999), (96, 99999), (97, 99999), (98, 99999), (99, 99999)]
def gR_265_l30 : List (Nat × Nat) := []
theorem g_265 {xs : Nat → Int} {Ln d : Nat} {T : List cK} {M : cM} (hT : TT T) (hI : Rng M) {p : Int} {D S : cM} (hR : RR D S M) (hS : Sg M) {H : Nat → cM} {hc : Int} (hH : RH D H hc M) (p0 : 0 ≤ p ∧ p ≤ 7) (p1 : p < D 0 1) : cC k_P xs Ln (d + 6) 265 [rf 63, (0, p)] (T, M) (qW T M gR_265_m 0 (fun v M1 => 0 ≤ v ∧ v ≤ 1 ∧ (v = pDyB D S p ∧ RR D (pDay D S p) M1 ∧ RH D H hc M1))) := by
  show cP k_P xs Ln (d + 6) 265 0 [(0, rf 63), (1, (0, p))] [] (T, M) _
  have hFm : Fr gR_265_m M M := Fr.refl
  have hD := hR.2.1
  have hDr := hD.rg
  have hSW := hR.2.2.2.2.1
  refine s_aload_n kx_265_0 rfl ?_
  refine s_iconst (v := 3) kx_265_1 (by decide) ?_
  refine s_callV2 (k := 63) (s1 := 2) (s2 := 0) (as := [(0, 3)]) (rest := []) kx_265_2 kp_265_549 (Or.inl rfl) rfl (tk_63 hT) ki_256 kcl_256 rfl rfl (by decide) (g_256 (d := d + 5) (of_ := 3) hT hI hR (by omega)) (kW (fun v1 M2 hI2 fr2 v1p => ?_))
  have hFm2 := hFm.call fr2 rfl
  have v1q := v1p.2.1
  have v1r := v1p.2.2
  have hc3 := v1p.1
  have hc4 := (RH.fr hH hD.1 fr2 rfl)
  refine s_istore_n kx_265_5 km_265_2 rfl ?_
  refine s_iload_n kx_265_6 rfl ?_
  refine s_iconst (v := 2) kx_265_7 (by decide) ?_
  refine s_icmp_ne (t := 18) kx_265_8 (by decide) (fun hc5 => ?_) (fun hc5 => ?_)
  · refine s_iload_n kx_265_18 rfl ?_
    refine s_iconst (v := 1) kx_265_19 (by decide) ?_
    refine s_icmp_eq (t := 25) kx_265_20 (by decide) (fun hc6 => ?_) (fun hc6 => ?_)
    · refine s_iconst (v := 0) kx_265_25 (by decide) ?_
      refine s_istore_n kx_265_26 km_265_3 rfl ?_
      refine s_iconst (v := 0) kx_265_27 (by decide) ?_
      refine s_istore kx_265_28 km_265_4 rfl ?_
      have key9 : ∀ n10 : Nat, ∀ (x3_7 x4_8 : Int), (0 ≤ x3_7) → (x3_7 ≤ 8) → (0 ≤ x4_8) → (x3_7 = pNb D (S 0 p.toNat) (x4_8).toNat) → (x3_7 ≤ x4_8) → (x4_8 ≤ D 0 0) → (2147483647 - x4_8).toNat < n10 → cP k_P xs Ln (d + 6) 265 30 [(0, rf 63), (1, (0, p)), (3, (0, x3_7)), (4, (0, x4_8))] [] (T, M2) (qW T M gR_265_m 0 (fun v M1 => 0 ≤ v ∧ v ≤ 1 ∧ (v = pDyB D S p ∧ RR D (pDay D S p) M1 ∧ RH D H hc M1))) := by
        intro n10
        induction n10 with
        | zero => intro x3_7 x4_8 i11 i12 i13 i14 i15 i16 hm17; exact absurd hm17 (Nat.not_lt_zero _)
        | succ n10 ih18 =>
          intro x3_7 x4_8 i11 i12 i13 i14 i15 i16 hm17
          refine s_iload kx_265_30 rfl ?_
          refine s_aload_n kx_265_32 rfl ?_
          refine r_getR (k := 63) (f := 15) (k2 := 65) kx_265_33 kp_265_57 (tk_63 hT) kf_12_15 (by decide) (rq_63_15 hI2) ?_
          refine s_aload_n kx_265_36 rfl ?_
          refine r_getI (k := 63) (f := 14) kx_265_37 kp_265_54 (tk_63 hT) kf_12_14 (fun _ => rfl) (rg_63_14 hI2) (fun v19 v19e v19a v19b => ?_)
          have v19z : M 63 14 = v19 := ((fr2 63 14 rfl)).symm.trans v19e
          refine r_ald (k := 65) kx_265_40 (tk_65 hT) ⟨by omega, by omega⟩ (rg_65 hI2) (fun v20 v20e v20a v20b => ?_)
          have v20d : D 0 0 = v20 := by have h9 := (hc3).1.1; rw [v19e] at h9; exact h9.symm.trans v20e
          refine s_icmp_ge (t := 73) kx_265_41 (by decide) (fun hc21 => ?_) (fun hc21 => ?_)
          · have hmn : x3_7 = pMn D S p := by unfold pMn; rw [show D 0 0 = x4_8 by omega]; exact i14
            refine s_iload_n kx_265_73 rfl ?_
            refine s_if_ne (t := 79) kx_265_74 (by decide) (fun hc22 => ?_) (fun hc22 => ?_)
            · refine s_aload_n kx_265_79 rfl ?_
              refine s_aload_n kx_265_80 rfl ?_
              refine r_getR (k := 63) (f := 48) (k2 := 92) kx_265_81 kp_265_159 (tk_63 hT) kf_12_48 (by decide) (rq_63_48 hI2) ?_
              refine s_iload_n kx_265_84 rfl ?_
              refine r_ald (k := 92) kx_265_85 (tk_92 hT) ⟨by omega, by omega⟩ (rg_92 hI2 (by omega)) (fun v23 v23e v23a v23b => ?_)
              have v23d : S 0 p.toNat = v23 := (RR.rm hc3 (p := p) ⟨by omega, by omega⟩ (by omega)).symm.trans v23e
              have v23w : 0 ≤ v23 ∧ v23 < D 0 0 := by have h9 := (hSW.at (p := p) ⟨by omega, by omega⟩).1; omega
              refine s_aload_n kx_265_86 rfl ?_
              refine s_iload_n kx_265_87 rfl ?_
              refine s_callV2 (k := 63) (s1 := 2) (s2 := 2) (as := [(0, x3_7)]) (rest := [(0, v23), rf 63]) kx_265_88 kp_265_549 (Or.inl rfl) rfl (tk_63 hT) ki_256 kcl_256 rfl rfl (by decide) (g_256 (d := d + 5) (of_ := x3_7) hT hI2 hc3 (by omega)) (kW (fun v24 M25 hI25 fr25 v24p => ?_))
              have hFm25 := hFm2.call fr25 rfl
              have hn3 : x3_7 = pMn D S p := hmn
              have v24q : v24 = pDr (pSd S) (pMn D S p) := by rw [← hn3]; exact v24p.2.1
              have v24r := v24p.2.2
              have hc26 := v24p.1
              have hc27 := (RH.fr hc4 hD.1 fr25 rfl)
              refine s_callV2 (k := 63) (s1 := 3) (s2 := 0) (as := [(0, v24), (0, v23)]) (rest := []) kx_265_91 kp_265_565 (Or.inl rfl) rfl (tk_63 hT) ki_264 kcl_264 rfl rfl (by decide) (g_264 (d := d + 4) (from_ := v23) (k := v24) hT hI25 hc26 (by omega) (by omega) (by omega) (by have h9 : v23 = S 0 p.toNat := v23d.symm; rw [h9]; have h8 := hmn; unfold pMn at h8; omega)) (kF (fun v28 v28p => ?_))
              have v28q : v28 = pTo D S p := by have h9 := v28p.2.2.1; rw [show v23 = S 0 p.toNat from v23d.symm, v24q] at h9; exact h9
              refine s_istore kx_265_94 km_265_4 rfl ?_
              refine s_aload_n kx_265_96 rfl ?_
              refine s_iload_n kx_265_97 rfl ?_
              refine s_iload kx_265_98 rfl ?_
              refine s_iload_n kx_265_100 rfl ?_
              refine s_callV2 (k := 63) (s1 := 4) (s2 := 0) (as := [(0, p), (0, v28), (0, p)]) (rest := []) kx_265_101 kp_265_520 (Or.inl rfl) rfl (tk_63 hT) ki_252 kcl_252 rfl rfl (by decide) (g_252 (d := d + 1) (p := p) (r := v28) (c := p) hT hI25 hc26 (by omega) (by omega) (by omega) (by omega)) (kF (fun v29 v29p => ?_))
              refine s_istore kx_265_104 km_265_5 rfl ?_
              refine s_aload_n kx_265_106 rfl ?_
              refine s_iload_n kx_265_107 rfl ?_
              refine s_iload kx_265_108 rfl ?_
              refine s_iload kx_265_110 rfl ?_
              refine s_if_eq (t := 119) kx_265_112 (by decide) (fun hc30 => ?_) (fun hc30 => ?_)
              · replace v29p := v29p.resolve_left (by omega)
                refine s_iconst (v := (-1)) kx_265_119 (by decide) ?_
                refine s_callV2 (k := 63) (s1 := 4) (s2 := 0) (as := [(0, (-1)), (0, v28), (0, p)]) (rest := []) kx_265_120 kp_265_555 (Or.inl rfl) rfl (tk_63 hT) ki_259 kcl_259 rfl rfl (by decide) (g_259 (d := d) (p := p) (r := v28) (c := (-1)) hT hI25 hc26 (hS.fr hFm25 rfl) hc27 (by omega) (by omega) (by omega) (by omega) (by omega) (by omega)) (kV (fun M32 hI32 fr32 v31p => ?_))
                have hFm32 := hFm25.call fr32 rfl
                have hc33 := v31p.1
                have hc34 := v31p.2
                refine s_iload kx_265_123 rfl ?_
                exact s_iret kx_265_125 (Or.inr ⟨kq_265, by omega⟩) ⟨_, _, rfl, rfl, hI32, hFm32, ⟨by omega, by omega, (by unfold pDyB; rw [← v28q, if_neg (by omega)]; omega), (by unfold pDay; rw [if_pos (by omega), ← v28q]; unfold pGc; rw [if_neg (by omega)]; exact hc33), hc34⟩⟩
              · replace v29p := v29p.resolve_right (by omega)
                refine s_iload_n kx_265_115 rfl ?_
                refine s_goto (t := 120) kx_265_116 (by decide) ?_
                refine s_callV2 (k := 63) (s1 := 4) (s2 := 0) (as := [(0, p), (0, v28), (0, p)]) (rest := []) kx_265_120 kp_265_555 (Or.inl rfl) rfl (tk_63 hT) ki_259 kcl_259 rfl rfl (by decide) (g_259 (d := d) (p := p) (r := v28) (c := p) hT hI25 hc26 (hS.fr hFm25 rfl) hc27 (by omega) (by omega) (by omega) (by omega) (by omega) (by omega)) (kV (fun M36 hI36 fr36 v35p => ?_))
                have hFm36 := hFm25.call fr36 rfl
                have hc37 := v35p.1
                have hc38 := v35p.2
                refine s_iload kx_265_123 rfl ?_
                exact s_iret kx_265_125 (Or.inr ⟨kq_265, by omega⟩) ⟨_, _, rfl, rfl, hI36, hFm36, ⟨by omega, by omega, (by unfold pDyB; rw [← v28q, if_pos (by omega)]; omega), (by unfold pDay; rw [if_pos (by omega), ← v28q]; unfold pGc; rw [if_pos (by omega)]; exact hc37), hc38⟩⟩
            · refine s_iconst (v := 0) kx_265_77 (by decide) ?_
              exact s_iret kx_265_78 (Or.inr ⟨kq_265, by omega⟩) ⟨_, _, rfl, rfl, hI2, hFm2, ⟨by omega, by omega, by unfold pDyB; exact (if_neg (by omega)).symm, (by unfold pDay; rw [if_neg (by omega), if_neg (by omega)]; exact hc3), hc4⟩⟩
          · refine s_iload_n kx_265_44 rfl ?_
            refine s_aload_n kx_265_45 rfl ?_
            refine s_aload_n kx_265_46 rfl ?_
            refine r_getR (k := 63) (f := 48) (k2 := 92) kx_265_47 kp_265_159 (tk_63 hT) kf_12_48 (by decide) (rq_63_48 hI2) ?_
            refine s_iload_n kx_265_50 rfl ?_
            refine r_ald (k := 92) kx_265_51 (tk_92 hT) ⟨by omega, by omega⟩ (rg_92 hI2 (by omega)) (fun v39 v39e v39a v39b => ?_)
            have v39d : S 0 p.toNat = v39 := (RR.rm hc3 (p := p) ⟨by omega, by omega⟩ (by omega)).symm.trans v39e
            have v39w : 0 ≤ v39 ∧ v39 < D 0 0 := by have h9 := (hSW.at (p := p) ⟨by omega, by omega⟩).1; omega
            refine s_iload kx_265_52 rfl ?_
            refine s_callV2 (k := 63) (s1 := 3) (s2 := 1) (as := [(0, x4_8), (0, v39)]) (rest := [(0, x3_7)]) kx_265_54 kp_265_511 (Or.inl rfl) rfl (tk_63 hT) ki_245 kcl_245 rfl rfl (by decide) (g_245 (d := d + 5) (a := v39) (b := x4_8) hT hI2 hc3 (by omega) (by omega) (by omega) (by omega)) (kF (fun v40 v40p => ?_))
            have hst := @pNb_step D (S 0 p.toNat) x4_8 (by omega)
            have v40q := v40p.2.2
            rw [← v39d] at v40q
            refine s_if_le (t := 64) kx_265_57 (by decide) (fun hc41 => ?_) (fun hc41 => ?_)
            · refine s_iconst (v := 0) kx_265_64 (by decide) ?_
              refine r_add kx_265_65 ⟨by omega, by omega⟩ ?_
              refine s_istore_n kx_265_66 km_265_3 rfl ?_
              refine r_iinc kx_265_67 rfl km_265_4 (by decide) ⟨by omega, by omega⟩ rfl ?_
              refine s_goto (t := 30) kx_265_70 (by decide) ?_
              exact cP.wk (lS1 rfl (lS1 rfl (lS1 rfl (lS1 rfl lS0)))) (ih18 (x3_7 + 0) (x4_8 + 1) (by omega) (by omega) (by omega) (by omega) (by omega) (by omega) (by omega))
            · refine s_iconst (v := 1) kx_265_60 (by decide) ?_
              refine s_goto (t := 65) kx_265_61 (by decide) ?_
              refine r_add kx_265_65 ⟨by omega, by omega⟩ ?_
              refine s_istore_n kx_265_66 km_265_3 rfl ?_
              refine r_iinc kx_265_67 rfl km_265_4 (by decide) ⟨by omega, by omega⟩ rfl ?_
              refine s_goto (t := 30) kx_265_70 (by decide) ?_
              exact cP.wk (lS1 rfl (lS1 rfl (lS1 rfl (lS1 rfl lS0)))) (ih18 (x3_7 + 1) (x4_8 + 1) (by omega) (by omega) (by omega) (by omega) (by omega) (by omega) (by omega))
      have hz : pNb D (S 0 p.toNat) (0 : Int).toNat = 0 := rfl
      exact cP.wk (lS1 rfl (lS1 rfl (lS1 rfl (lS1 rfl lS0)))) (key9 _ 0 0 (by omega) (by omega) (by omega) (by omega) (by omega) (by omega) (Nat.lt_succ_self _))
    · refine s_iconst (v := 0) kx_265_23 (by decide) ?_
      exact s_iret kx_265_24 (Or.inr ⟨kq_265, by omega⟩) ⟨_, _, rfl, rfl, hI2, hFm2, ⟨by omega, by omega, by unfold pDyB; exact (if_neg (by omega)).symm, (by unfold pDay; rw [if_neg (by omega), if_neg (by omega)]; exact hc3), hc4⟩⟩
  · refine s_aload_n kx_265_11 rfl ?_
    refine s_iload_n kx_265_12 rfl ?_
    refine s_bipush (v := 10) kx_265_13 (by decide) ?_
    refine s_callV2 (k := 63) (s1 := 3) (s2 := 0) (as := [(0, 10), (0, p)]) (rest := []) kx_265_15 kp_265_562 (Or.inl rfl) rfl (tk_63 hT) ki_261 kcl_261 rfl rfl (by decide) (g_261 (d := d + 1) (p := p) (n := 10) hT hI2 hc3 (hS.fr hFm2 rfl) hc4 (by omega) (by omega) (by omega)) (kV (fun M43 hI43 fr43 v42p => ?_))
    have hFm43 := hFm2.call fr43 rfl
    have hc44 := v42p.1
    have hc45 := v42p.2
    refine s_iload_n kx_265_18 rfl ?_
    refine s_iconst (v := 1) kx_265_19 (by decide) ?_
    refine s_icmp_eq (t := 25) kx_265_20 (by decide) (fun hc46 => absurd hc46 (by omega)) (fun hc46 => ?_)
    refine s_iconst (v := 0) kx_265_23 (by decide) ?_
    exact s_iret kx_265_24 (Or.inr ⟨kq_265, by omega⟩) ⟨_, _, rfl, rfl, hI43, hFm43, ⟨by omega, by omega, by unfold pDyB; exact (if_neg (by omega)).symm, (by unfold pDay; rw [if_neg (by omega), if_pos (by omega)]; exact hc44), hc45⟩⟩
def gR_266_l24 : List (Nat × Nat) := [(100, 99999), (101, 99999), (102, 99999), (63, 60), (63, 62), (63, 63), (63, 64), (92, 99999), (93, 99999), (94, 99999), (95, 99999), (96, 99999), (97, 99999), (98, 99999), (99, 99999)]
def gR_266_l32 : List (Nat × Nat) := [(100, 99999), (101, 99999), (102, 99999), (63, 60), (63, 62), (63, 63), (63, 64), (92, 99999), (93, 99999), (94, 99999), (95, 99999), (96, 99999), (97, 99999), (98, 99999), (99, 99999)]
def gR_266_m : List (Nat × Nat) := [(100, 99999), (101, 99999), (102, 99999), (63, 58), (63, 59), (63, 60), (63, 62), (63, 63), (63, 64), (91, 99999), (92, 99999), (93, 99999), (94, 99999), (95, 99999), (96, 99999), (97, 99999), (98, 99999), (99, 99999)]
theorem g_266 {xs : Nat → Int} {Ln d : Nat} {T : List cK} {M : cM} (hT : TT T) (hI : Rng M) {n : Int} {D S : cM} (hR : RR D S M) (hS : Sg M) {H : Nat → cM} {hc : Int} (hH : RH D H hc M) : cC k_P xs Ln (d + 7) 266 [rf 63, (0, n)] (T, M) (qW T M gR_266_m 0 (fun v M1 => ((v = -1 ∧ ¬ (1 ≤ n ∧ n ≤ 30)) ∧ RR D S M1 ∧ RH D H hc M1) ∨ ((v = pDsB D S n.toNat ∧ (1 ≤ n ∧ n ≤ 30)) ∧ RR D (pDs D S n.toNat) M1 ∧ RH D (pPh S H) (pC1 hc) M1))) := by
  show cP k_P xs Ln (d + 7) 266 0 [(0, rf 63), (1, (0, n))] [] (T, M) _
  have hFm : Fr gR_266_m M M := Fr.refl
  have hD := hR.2.1
  have hDr := hD.rg
  have hSW := hR.2.2.2.2.1
  refine s_iload_n kx_266_0 rfl ?_
  refine s_iconst (v := 1) kx_266_1 (by decide) ?_
  refine s_bipush (v := 30) kx_266_2 (by decide) ?_
  refine s_callS2 (s1 := 3) (s2 := 0) (as := [(0, 30), (0, 1), (0, n)]) (rest := []) kx_266_4 kp_266_345 rfl kcl_172 rfl rfl (by decide) (m_172 (d := d + 6) (v_ := n) (least := 1) (most := 30) hT hI) (kF (fun v1 v1p => ?_))
  refine s_if_ne (t := 16) kx_266_7 (by decide) (fun hc2 => ?_) (fun hc2 => ?_)
  · replace v1p := v1p.resolve_right (by omega)
    refine s_aload_n kx_266_16 rfl ?_
    refine s_callV2 (k := 63) (s1 := 1) (s2 := 0) (as := []) (rest := []) kx_266_17 kp_266_552 (Or.inl rfl) rfl (tk_63 hT) ki_227 kcl_227 rfl rfl (by decide) (g_227 (d := d + 5) hT hI hR hH) (kV (fun M4 hI4 fr4 v3p => ?_))
    have hFm4 := hFm.call fr4 rfl
    have hc5 := v3p.1
    have hc6 := v3p.2
    refine s_iconst (v := 0) kx_266_20 (by decide) ?_
    refine s_istore_n kx_266_21 km_266_2 rfl ?_
    refine s_iconst (v := 0) kx_266_22 (by decide) ?_
    refine s_istore_n kx_266_23 km_266_3 rfl ?_
    have key10 : ∀ n11 : Nat, ∀ (x2_7 x3_8 : Int), ∀ M9 : cM, Rng M9 → Fr gR_266_m M M9 → Fr gR_266_l24 M4 M9 → (0 ≤ x2_7) → (x2_7 ≤ 240) → (0 ≤ x3_8) → (x3_8 ≤ 30) → (x2_7 = pDsB D S (x3_8).toNat) → (0 ≤ x2_7) → (x2_7 ≤ 8 * x3_8) → (x3_8 ≤ n) → (RR D (pDs D S (x3_8).toNat) M9) → (RH D (pPh S H) (pC1 hc) M9) → (2147483647 - x3_8).toNat < n11 → cP k_P xs Ln (d + 7) 266 24 [(0, rf 63), (1, (0, n)), (2, (0, x2_7)), (3, (0, x3_8))] [] (T, M9) (qW T M gR_266_m 0 (fun v M1 => ((v = -1 ∧ ¬ (1 ≤ n ∧ n ≤ 30)) ∧ RR D S M1 ∧ RH D H hc M1) ∨ ((v = pDsB D S n.toNat ∧ (1 ≤ n ∧ n ≤ 30)) ∧ RR D (pDs D S n.toNat) M1 ∧ RH D (pPh S H) (pC1 hc) M1))) := by
      intro n11
      induction n11 with
      | zero => intro x2_7 x3_8 M9 hI9 hFm9 fl9 i12 i13 i14 i15 i16 i17 i18 i19 i20 i21 hm22; exact absurd hm22 (Nat.not_lt_zero _)
      | succ n11 ih23 =>
        intro x2_7 x3_8 M9 hI9 hFm9 fl9 i12 i13 i14 i15 i16 i17 i18 i19 i20 i21 hm22
        refine s_iload_n kx_266_24 rfl ?_
        refine s_iload_n kx_266_25 rfl ?_
        refine s_icmp_ge (t := 75) kx_266_26 (by decide) (fun hc24 => ?_) (fun hc24 => ?_)
        · refine s_iload_n kx_266_75 rfl ?_
          exact s_iret kx_266_76 (Or.inl kq_266) ⟨_, _, rfl, rfl, hI9, hFm9, (by have hz : x3_8 = n := (by omega); rw [← hz]; exact Or.inr ⟨⟨i16, by omega⟩, i20, i21⟩)⟩
        · refine s_iconst (v := 0) kx_266_29 (by decide) ?_
          refine s_istore kx_266_30 km_266_4 rfl ?_
          have key28 : ∀ n29 : Nat, ∀ (x2_25 x4_26 : Int), ∀ M27 : cM, Rng M27 → Fr gR_266_m M M27 → Fr gR_266_l24 M4 M27 → Fr gR_266_l32 M9 M27 → (0 ≤ x2_25) → (x2_25 ≤ 248) → (0 ≤ x4_26) → (x4_26 ≤ 8) → (x2_25 = pDsB D S (x3_8).toNat + pPpB D (pDs D S (x3_8).toNat) (x4_26).toNat) → (x2_25 ≤ 8 * x3_8 + x4_26) → (x4_26 ≤ D 0 1) → (RR D (pPp D (pDs D S (x3_8).toNat) (x4_26).toNat) M27) → (RH D (pPh S H) (pC1 hc) M27) → (2147483647 - x4_26).toNat < n29 → cP k_P xs Ln (d + 7) 266 32 [(0, rf 63), (1, (0, n)), (2, (0, x2_25)), (3, (0, x3_8)), (4, (0, x4_26))] [] (T, M27) (qW T M gR_266_m 0 (fun v M1 => ((v = -1 ∧ ¬ (1 ≤ n ∧ n ≤ 30)) ∧ RR D S M1 ∧ RH D H hc M1) ∨ ((v = pDsB D S n.toNat ∧ (1 ≤ n ∧ n ≤ 30)) ∧ RR D (pDs D S n.toNat) M1 ∧ RH D (pPh S H) (pC1 hc) M1))) := by
            intro n29
            induction n29 with
            | zero => intro x2_25 x4_26 M27 hI27 hFm27 hFl2427 fl27 i30 i31 i32 i33 i34 i35 i36 i37 i38 hm39; exact absurd hm39 (Nat.not_lt_zero _)
            | succ n29 ih40 =>
              intro x2_25 x4_26 M27 hI27 hFm27 hFl2427 fl27 i30 i31 i32 i33 i34 i35 i36 i37 i38 hm39
              refine s_iload kx_266_32 rfl ?_
              refine s_aload_n kx_266_34 rfl ?_
              refine r_getR (k := 63) (f := 19) (k2 := 69) kx_266_35 kp_266_69 (tk_63 hT) kf_12_19 (by decide) (rq_63_19 hI27) ?_
              refine s_aload_n kx_266_38 rfl ?_
              refine r_getI (k := 63) (f := 14) kx_266_39 kp_266_54 (tk_63 hT) kf_12_14 (fun _ => rfl) (rg_63_14 hI27) (fun v41 v41e v41a v41b => ?_)
              have v41z : M 63 14 = v41 := (((fl27 63 14 rfl).trans ((fl9 63 14 rfl).trans (fr4 63 14 rfl)))).symm.trans v41e
              refine r_ald (k := 69) kx_266_42 (tk_69 hT) ⟨by omega, by omega⟩ (rg_69 hI27) (fun v42 v42e v42a v42b => ?_)
              have v42d : D 0 1 = v42 := by have h9 := (i37).1.2.1; rw [v41e] at h9; exact h9.symm.trans v42e
              refine s_icmp_ge (t := 69) kx_266_43 (by decide) (fun hc43 => ?_) (fun hc43 => ?_)
              · refine r_iinc kx_266_69 rfl km_266_3 (by decide) ⟨by omega, by omega⟩ rfl ?_
                refine s_goto (t := 24) kx_266_72 (by decide) ?_
                have hds := pDs_S (D := D) (S := S) (x := x3_8) (by omega); have hz4 : x4_26 = D 0 1 := (by omega); have heq := i34; rw [hz4] at heq; have hc44 : RR D (pDs D S (x3_8 + 1).toNat) M27 := by rw [hds.1, ← hz4]; exact i37
                exact cP.wk (lS1 rfl (lS1 rfl (lS1 rfl (lS1 rfl lS0)))) (ih23 x2_25 (x3_8 + 1) M27 hI27 hFm27 hFl2427 (by omega) (by omega) (by omega) (by omega) (by omega) (by omega) (by omega) (by omega) hc44 i38 (by omega))
              · refine s_iload_n kx_266_46 rfl ?_
                refine s_aload_n kx_266_47 rfl ?_
                refine s_iload kx_266_48 rfl ?_
                refine s_callV2 (k := 63) (s1 := 2) (s2 := 1) (as := [(0, x4_26)]) (rest := [(0, x2_25)]) kx_266_50 kp_266_568 (Or.inl rfl) rfl (tk_63 hT) ki_265 kcl_265 rfl rfl (by decide) (g_265 (d := d) (p := x4_26) hT hI27 i37 (hS.fr hFm27 rfl) i38 (by omega) (by omega)) (kW (fun v45 M46 hI46 fr46 v45p => ?_))
                have hFm46 := hFm27.call fr46 rfl
                have hFl2446 := hFl2427.call fr46 rfl
                have hFl3246 := fl27.call fr46 rfl
                have hc47 := v45p.2.2.2.1
                have hc48 := v45p.2.2.2.2
                refine s_if_eq (t := 60) kx_266_53 (by decide) (fun hc49 => ?_) (fun hc49 => ?_)
                · refine s_iconst (v := 0) kx_266_60 (by decide) ?_
                  refine r_add kx_266_61 ⟨by omega, by omega⟩ ?_
                  refine s_istore_n kx_266_62 km_266_2 rfl ?_
                  refine r_iinc kx_266_63 rfl km_266_4 (by decide) ⟨by omega, by omega⟩ rfl ?_
                  refine s_goto (t := 32) kx_266_66 (by decide) ?_
                  have hpp := pPp_S (D := D) (S := (pDs D S (x3_8).toNat)) (x := x4_26) (by omega); have hc50 : RR D (pPp D (pDs D S (x3_8).toNat) (x4_26 + 1).toNat) M46 := by rw [hpp.1]; exact hc47
                  exact cP.wk (lS1 rfl (lS1 rfl (lS1 rfl (lS1 rfl (lS1 rfl lS0))))) (ih40 (x2_25 + 0) (x4_26 + 1) M46 hI46 hFm46 hFl2446 hFl3246 (by omega) (by omega) (by omega) (by omega) (by omega) (by omega) (by omega) hc50 hc48 (by omega))
                · refine s_iconst (v := 1) kx_266_56 (by decide) ?_
                  refine s_goto (t := 61) kx_266_57 (by decide) ?_
                  refine r_add kx_266_61 ⟨by omega, by omega⟩ ?_
                  refine s_istore_n kx_266_62 km_266_2 rfl ?_
                  refine r_iinc kx_266_63 rfl km_266_4 (by decide) ⟨by omega, by omega⟩ rfl ?_
                  refine s_goto (t := 32) kx_266_66 (by decide) ?_
                  have hpp := pPp_S (D := D) (S := (pDs D S (x3_8).toNat)) (x := x4_26) (by omega); have hc51 : RR D (pPp D (pDs D S (x3_8).toNat) (x4_26 + 1).toNat) M46 := by rw [hpp.1]; exact hc47
                  exact cP.wk (lS1 rfl (lS1 rfl (lS1 rfl (lS1 rfl (lS1 rfl lS0))))) (ih40 (x2_25 + 1) (x4_26 + 1) M46 hI46 hFm46 hFl2446 hFl3246 (by omega) (by omega) (by omega) (by omega) (by omega) (by omega) (by omega) hc51 hc48 (by omega))
          have hz1 : pPpB D (pDs D S (x3_8).toNat) (0 : Int).toNat = 0 := rfl
          exact cP.wk (lS1 rfl (lS1 rfl (lS1 rfl (lS1 rfl (lS1 rfl lS0))))) (key28 _ x2_7 0 M9 hI9 hFm9 fl9 Fr.refl (by omega) (by omega) (by omega) (by omega) (by omega) (by omega) (by omega) i20 i21 (Nat.lt_succ_self _))
    have hz0 : pDsB D S (0 : Int).toNat = 0 := rfl
    exact cP.wk (lS1 rfl (lS1 rfl (lS1 rfl (lS1 rfl lS0)))) (key10 _ 0 0 M4 hI4 hFm4 Fr.refl (by omega) (by omega) (by omega) (by omega) (by omega) (by omega) (by omega) (by omega) hc5 hc6 (Nat.lt_succ_self _))
  · replace v1p := v1p.resolve_left (by omega)
    refine s_aload_n kx_266_10 rfl ?_
    refine s_iconst (v := 3) kx_266_11 (by decide) ?_
    refine s_callV2 (k := 63) (s1 := 2) (s2 := 0) (as := [(0, 3)]) (rest := []) kx_266_12 kp_266_255 (Or.inl rfl) rfl (tk_63 hT) ki_218 kcl_218 rfl rfl (by decide) (m_218 (d := d + 6) (kind := 3) hT hI (by omega)) (kW (fun v52 M53 hI53 fr53 v52p => ?_))
    have hFm53 := hFm.call fr53 rfl
    have hc54 := (RR.fr hR fr53 rfl)
    have hc55 := (RH.fr hH hD.1 fr53 rfl)
    exact s_iret kx_266_15 (Or.inl kq_266) ⟨_, _, rfl, rfl, hI53, hFm53, (Or.inl ⟨by omega, hc54, hc55⟩)⟩
