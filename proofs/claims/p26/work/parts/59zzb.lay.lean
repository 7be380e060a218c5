def gC_84_l9 : List (Nat × Nat) := [(54, 7), (56, 99999)]
def gC_84_m : List (Nat × Nat) := [(54, 7), (56, 99999)]
theorem g_84 {xs : Nat → Int} {Ln d : Nat} {T : List cK} {M : cM} (hT : TT T) (hI : Rng M) {people : Int} {w : Int → Int} (hw : ∀ r : Int, 0 ≤ r → r < 8 → M 55 r.toNat = w r) (hw1 : ∀ r, -1 ≤ w r) (p0 : 0 ≤ people ∧ people ≤ 8) : cC k_P xs Ln (d + 1) 84 [rf 54, (0, people)] (T, M) (qW T M gC_84_m 0 (fun v M1 => (v = 1 ∧ pSum (cAs w) 8 ≤ people ∧ STL w M1) ∨ (v = 0 ∧ people < pSum (cAs w) 8))) := by
  show cP k_P xs Ln (d + 1) 84 0 [(0, rf 54), (1, (0, people))] [] (T, M) _
  have hFm : Fr gC_84_m M M := Fr.refl
  refine s_iconst (v := 0) kx_84_0 (by decide) ?_
  refine s_istore_n kx_84_1 km_84_2 rfl ?_
  refine s_aload_n kx_84_2 rfl ?_
  refine s_iconst (v := 1) kx_84_3 (by decide) ?_
  refine r_put (k := 54) (f := 7) kx_84_4 kp_84_34 (tk_54 hT) kf_6_7 rfl (by decide) (by decide) hI ru_54_7 (fun M1 hI1 u1 => ?_)
  have hFm1 := hFm.up u1 rfl
  refine s_iconst (v := 0) kx_84_7 (by decide) ?_
  refine s_istore_n kx_84_8 km_84_3 rfl ?_
  have key5 : ∀ n6 : Nat, ∀ (x2_2 x3_3 : Int), ∀ M4 : cM, Rng M4 → Fr gC_84_m M M4 → Fr gC_84_l9 M1 M4 → (0 ≤ x2_2) → (x2_2 ≤ 8) → (0 ≤ x3_3) → (x3_3 ≤ 8) → (x2_2 ≤ people) → (1 ≤ M4 54 7) → (M4 54 7 ≤ 2 ^ (x2_2).toNat) → (x2_2 = pSum (cAs w) (x3_3).toNat) → (M4 54 7 = pPr (cAs w) (x3_3).toNat) → (LAY w x3_3 M4) → (2147483647 - x3_3).toNat < n6 → cP k_P xs Ln (d + 1) 84 9 [(0, rf 54), (1, (0, people)), (2, (0, x2_2)), (3, (0, x3_3))] [] (T, M4) (qW T M gC_84_m 0 (fun v M1 => (v = 1 ∧ pSum (cAs w) 8 ≤ people ∧ STL w M1) ∨ (v = 0 ∧ people < pSum (cAs w) 8))) := by
    intro n6
    induction n6 with
    | zero => intro x2_2 x3_3 M4 hI4 hFm4 fl4 i7 i8 i9 i10 i11 i12 i13 i14 i15 i16 hm17; exact absurd hm17 (Nat.not_lt_zero _)
    | succ n6 ih18 =>
      intro x2_2 x3_3 M4 hI4 hFm4 fl4 i7 i8 i9 i10 i11 i12 i13 i14 i15 i16 hm17
      obtain ⟨sv, sve⟩ : ∃ z, M4 54 7 = z := ⟨_, rfl⟩
      refine s_iload_n kx_84_9 rfl ?_
      refine s_bipush (v := 8) kx_84_10 (by decide) ?_
      refine s_icmp_ge (t := 86) kx_84_12 (by decide) (fun hc19 => ?_) (fun hc19 => ?_)
      · have hp8 := pow8 (n := x2_2) (by omega)
        have hw2 : ∀ r : Int, M4 55 r.toNat = M 55 r.toNat := fun r => ((fl4 55 _ rfl).trans (u1.2 55 _ (by omega)))
        refine s_aload_n kx_84_86 rfl ?_
        refine r_getK (k := 54) (f := 7) kx_84_87 kp_84_34 (tk_54 hT) kf_6_7 (fun _ => rfl) sve ?_
        refine s_sipush (v := 256) kx_84_90 (by decide) ?_
        refine s_icmp_gt (t := 100) kx_84_93 (by decide) (fun hc20 => ?_) (fun hc20 => ?_)
        · exfalso
          omega
        · refine s_iconst (v := 1) kx_84_96 (by decide) ?_
          refine s_goto (t := 101) kx_84_97 (by decide) ?_
          exact s_iret kx_84_101 (Or.inr ⟨kq_84, by omega⟩) ⟨_, _, rfl, rfl, hI4, hFm4, (by have hx8 : x3_3 = 8 := (by omega); rw [hx8] at i16 i15 i14; exact Or.inl ⟨rfl, (by have h9 : ((8 : Int).toNat) = 8 := rfl; rw [h9] at i14; omega), ⟨fun r r0 r1 => ⟨(hw2 r).trans (hw r r0 r1), i16 r r0 r1⟩, (by have h9 : ((8 : Int).toNat) = 8 := rfl; rw [h9] at i15; omega), (by have h9 : ((8 : Int).toNat) = 8 := rfl; rw [h9] at i15; omega), hw1⟩⟩)⟩
      · refine s_iload_n kx_84_15 rfl ?_
        refine s_iconst (v := 0) kx_84_16 (by decide) ?_
        refine s_aload_n kx_84_17 rfl ?_
        refine r_getR (k := 54) (f := 0) (k2 := 55) kx_84_18 kp_84_9 (tk_54 hT) kf_6_0 (by decide) (rq_54_0 hI4) ?_
        refine s_iload_n kx_84_21 rfl ?_
        refine r_ald (k := 55) kx_84_22 (tk_55 hT) ⟨by omega, by omega⟩ (rg_55 hI4) (fun v21 v21e v21a v21b => ?_)
        have v21w : w x3_3 = v21 := (hw x3_3 (by omega) (by omega)).symm.trans ((((fl4 55 _ rfl).trans (u1.2 55 _ (by omega)))).symm.trans v21e)
        refine s_callS2 (s1 := 2) (s2 := 1) (as := [(0, v21), (0, 0)]) (rest := [(0, x2_2)]) kx_84_23 kp_84_117 rfl kcl_297 rfl rfl (by decide) (m_297 (d := d) (a := 0) (b := v21) hT hI4) (kF (fun v22 v22p => ?_))
        refine r_add kx_84_26 ⟨by omega, by omega⟩ ?_
        refine s_istore_n kx_84_27 km_84_2 rfl ?_
        have hcm := cAs_max (w := w) (v := v22) (r := x3_3) ⟨by omega, by omega⟩ (hw1 _) (by have h9 := v22p; omega)
        have hsm : pSum (cAs w) (x3_3 + 1).toNat = pSum (cAs w) (x3_3).toNat + v22 := by rw [show (x3_3 + 1).toNat = (x3_3).toNat + 1 by omega, cAs_sum, show (((x3_3).toNat : Nat) : Int) = x3_3 by omega, hcm]
        refine s_iload_n kx_84_28 rfl ?_
        refine s_iload_n kx_84_29 rfl ?_
        refine s_icmp_le (t := 35) kx_84_30 (by decide) (fun hc23 => ?_) (fun hc23 => ?_)
        · refine s_aload_n kx_84_35 rfl ?_
          refine r_getR (k := 54) (f := 1) (k2 := 56) kx_84_36 kp_84_15 (tk_54 hT) kf_6_1 (by decide) (rq_54_1 hI4) ?_
          refine s_iload_n kx_84_39 rfl ?_
          refine s_aload_n kx_84_40 rfl ?_
          refine r_getR (k := 54) (f := 0) (k2 := 55) kx_84_41 kp_84_9 (tk_54 hT) kf_6_0 (by decide) (rq_54_0 hI4) ?_
          refine s_iload_n kx_84_44 rfl ?_
          refine r_aldK (k := 55) kx_84_45 (tk_55 hT) ⟨by omega, by omega⟩ v21e ?_
          refine s_iconst (v := (-1)) kx_84_46 (by decide) ?_
          refine s_icmp_ne (t := 54) kx_84_47 (by decide) (fun hc24 => ?_) (fun hc24 => ?_)
          · refine s_aload_n kx_84_54 rfl ?_
            refine r_getK (k := 54) (f := 7) kx_84_55 kp_84_34 (tk_54 hT) kf_6_7 (fun _ => rfl) sve ?_
            refine r_ast (k := 56) kx_84_58 (tk_56 hT) ⟨by omega, by omega⟩ hI4 ru_56 (fun M25 hI25 u25 => ?_)
            have hFm25 := hFm4.up u25 rfl
            have hFl925 := fl4.up u25 rfl
            refine s_aload_n kx_84_59 rfl ?_
            refine s_dup kx_84_60 rfl ?_
            refine r_getK (k := 54) (f := 7) kx_84_61 kp_84_34 (tk_54 hT) kf_6_7 (fun _ => rfl) ((u25.2 54 7 (by omega)).trans sve) ?_
            refine s_iconst (v := 1) kx_84_64 (by decide) ?_
            refine s_iconst (v := 0) kx_84_65 (by decide) ?_
            refine s_aload_n kx_84_66 rfl ?_
            refine r_getR (k := 54) (f := 0) (k2 := 55) kx_84_67 kp_84_9 (tk_54 hT) kf_6_0 (by decide) (rq_54_0 hI25) ?_
            refine s_iload_n kx_84_70 rfl ?_
            refine r_aldK (k := 55) kx_84_71 (tk_55 hT) ⟨by omega, by omega⟩ ((u25.2 55 _ (by omega)).trans v21e) ?_
            refine s_callS2 (s1 := 2) (s2 := 3) (as := [(0, v21), (0, 0)]) (rest := [(0, 1), (0, sv), rf 54]) kx_84_72 kp_84_117 rfl kcl_297 rfl rfl (by decide) (m_297 (d := d) (a := 0) (b := v21) hT hI25) (kF (fun v26 v26p => ?_))
            refine r_add kx_84_75 ⟨by omega, by omega⟩ ?_
            have hm8 := lay_mul (S := sv) (a := x2_2) (m := v26) (by omega) (by omega) (by omega) (by omega)
            have hm9 := pow8 (n := x2_2 + v26) (by omega)
            have hcm2 := cAs_max (w := w) (v := v26) (r := x3_3) ⟨by omega, by omega⟩ (hw1 _) (by have h9 := v26p; omega)
            refine r_mul kx_84_76 ⟨by omega, by omega⟩ ?_
            refine r_put (k := 54) (f := 7) kx_84_77 kp_84_34 (tk_54 hT) kf_6_7 rfl (by decide) (by decide) hI25 ru_54_7 (fun M27 hI27 u27 => ?_)
            have hFm27 := hFm25.up u27 rfl
            have hFl927 := hFl925.up u27 rfl
            refine r_iinc kx_84_80 rfl km_84_3 (by decide) ⟨by omega, by omega⟩ rfl ?_
            refine s_goto (t := 9) kx_84_83 (by decide) ?_
            have hk28 : M27 54 7 = (sv * (1 + v26)) := u27.1
            exact cP.wk (lS1 rfl (lS1 rfl (lS1 rfl (lS1 rfl lS0)))) (ih18 (x2_2 + v22) (x3_3 + 1) M27 hI27 hFm27 hFl927 (by omega) (by omega) (by omega) (by omega) (by omega) (by omega) (by rw [show v22 = v26 by omega]; omega) (by omega) (by rw [pPr_S (by omega) hcm2, show pPr (cAs w) (x3_3).toNat = sv by omega]; omega) (fun r r0 r1 => (u27.2 56 _ (by omega)).trans ((LAY.nx i16 (by omega) u25 rfl (by rw [if_neg (by omega)]; omega)) r r0 r1)) (by omega))
          · refine s_iconst (v := 0) kx_84_50 (by decide) ?_
            refine s_goto (t := 58) kx_84_51 (by decide) ?_
            refine r_ast (k := 56) kx_84_58 (tk_56 hT) ⟨by omega, by omega⟩ hI4 ru_56 (fun M29 hI29 u29 => ?_)
            have hFm29 := hFm4.up u29 rfl
            have hFl929 := fl4.up u29 rfl
            refine s_aload_n kx_84_59 rfl ?_
            refine s_dup kx_84_60 rfl ?_
            refine r_getK (k := 54) (f := 7) kx_84_61 kp_84_34 (tk_54 hT) kf_6_7 (fun _ => rfl) ((u29.2 54 7 (by omega)).trans sve) ?_
            refine s_iconst (v := 1) kx_84_64 (by decide) ?_
            refine s_iconst (v := 0) kx_84_65 (by decide) ?_
            refine s_aload_n kx_84_66 rfl ?_
            refine r_getR (k := 54) (f := 0) (k2 := 55) kx_84_67 kp_84_9 (tk_54 hT) kf_6_0 (by decide) (rq_54_0 hI29) ?_
            refine s_iload_n kx_84_70 rfl ?_
            refine r_aldK (k := 55) kx_84_71 (tk_55 hT) ⟨by omega, by omega⟩ ((u29.2 55 _ (by omega)).trans v21e) ?_
            refine s_callS2 (s1 := 2) (s2 := 3) (as := [(0, v21), (0, 0)]) (rest := [(0, 1), (0, sv), rf 54]) kx_84_72 kp_84_117 rfl kcl_297 rfl rfl (by decide) (m_297 (d := d) (a := 0) (b := v21) hT hI29) (kF (fun v30 v30p => ?_))
            refine r_add kx_84_75 ⟨by omega, by omega⟩ ?_
            have hm8 := lay_mul (S := sv) (a := x2_2) (m := v30) (by omega) (by omega) (by omega) (by omega)
            have hm9 := pow8 (n := x2_2 + v30) (by omega)
            have hcm2 := cAs_max (w := w) (v := v30) (r := x3_3) ⟨by omega, by omega⟩ (hw1 _) (by have h9 := v30p; omega)
            refine r_mul kx_84_76 ⟨by omega, by omega⟩ ?_
            refine r_put (k := 54) (f := 7) kx_84_77 kp_84_34 (tk_54 hT) kf_6_7 rfl (by decide) (by decide) hI29 ru_54_7 (fun M31 hI31 u31 => ?_)
            have hFm31 := hFm29.up u31 rfl
            have hFl931 := hFl929.up u31 rfl
            refine r_iinc kx_84_80 rfl km_84_3 (by decide) ⟨by omega, by omega⟩ rfl ?_
            refine s_goto (t := 9) kx_84_83 (by decide) ?_
            have hk32 : M31 54 7 = (sv * (1 + v30)) := u31.1
            exact cP.wk (lS1 rfl (lS1 rfl (lS1 rfl (lS1 rfl lS0)))) (ih18 (x2_2 + v22) (x3_3 + 1) M31 hI31 hFm31 hFl931 (by omega) (by omega) (by omega) (by omega) (by omega) (by omega) (by rw [show v22 = v30 by omega]; omega) (by omega) (by rw [pPr_S (by omega) hcm2, show pPr (cAs w) (x3_3).toNat = sv by omega]; omega) (fun r r0 r1 => (u31.2 56 _ (by omega)).trans ((LAY.nx i16 (by omega) u29 rfl (by rw [if_pos (by omega)])) r r0 r1)) (by omega))
        · refine s_iconst (v := 0) kx_84_33 (by decide) ?_
          exact s_iret kx_84_34 (Or.inr ⟨kq_84, by omega⟩) ⟨_, _, rfl, rfl, hI4, hFm4, (Or.inr ⟨rfl, by have h9 := pSum_mono (f := cAs w) cAs_ge (n := (x3_3 + 1).toNat) (m := 8) (by omega); omega⟩)⟩
  have hk33 : M1 54 7 = 1 := u1.1
  have hz2 : (2 : Int) ^ (0 : Int).toNat = 1 := rfl
  exact cP.wk (lS1 rfl (lS1 rfl (lS1 rfl (lS1 rfl lS0)))) (key5 _ 0 0 M1 hI1 hFm1 Fr.refl (by omega) (by omega) (by omega) (by omega) (by omega) (by omega) (by omega) rfl (by show _ = (1 : Int); omega) (fun r a b => absurd b (by omega)) (Nat.lt_succ_self _))
