def hC_37_l18 : List (Nat × Nat) := [(49, 99999)]
def hC_37_l26 : List (Nat × Nat) := [(49, 99999)]
def hC_37_l35 : List (Nat × Nat) := [(49, 99999)]
def hC_37_m : List (Nat × Nat) := [(49, 99999)]
theorem h_37 {xs : Nat → Int} {Ln d : Nat} {T : List cK} {M : cM} (hT : TT T) (hI : Rng M) {rooms to : Int} {pr : Nat → Nat → Int} (hpr : ∀ a b : Nat, (a : Int) < rooms → (b : Int) < rooms → M 47 (8 * a + b) = pr a b) (hpb : ∀ a b : Nat, (a : Int) < rooms → (b : Int) < rooms → 0 ≤ pr a b ∧ pr a b ≤ 1059) (p0 : 1 ≤ rooms ∧ rooms ≤ 8) (p1 : 0 ≤ to ∧ to ≤ 7) (p2 : to < rooms) : cC k_P xs Ln (d + 1) 37 [rf 46, (0, rooms), (0, to)] (T, M) (qV T M hC_37_m (fun M1 => pLq M1 49 (pIt 1000000000 pr to.toNat rooms.toNat (rooms.toNat - 1)))) := by
  show cP k_P xs Ln (d + 1) 37 0 [(0, rf 46), (1, (0, rooms)), (2, (0, to))] [] (T, M) _
  have hFm : Fr hC_37_m M M := Fr.refl
  refine s_aload_n kx_37_0 rfl ?_
  refine r_getR (k := 46) (f := 2) (k2 := 49) kx_37_1 kp_37_18 (tk_46 hT) kf_4_2 (by decide) (rq_46_2 hI) ?_
  refine s_ldc kx_37_4 kp_37_74 ?_
  refine s_callS2 (s1 := 2) (s2 := 0) (as := [(0, 1000000000), rf 49]) (rest := []) kx_37_6 kp_37_34 rfl kcl_301 rfl rfl (by decide) (f_fill (d := d) (val := 1000000000) hT hI (k := 49) (n := 8) (tk_49 hT) (by decide) (fun _ => ru_49)) (kV (fun M2 hI2 fr2 v1p => ?_))
  have hFm2 := hFm.call fr2 rfl
  refine s_aload_n kx_37_9 rfl ?_
  refine r_getR (k := 46) (f := 2) (k2 := 49) kx_37_10 kp_37_18 (tk_46 hT) kf_4_2 (by decide) (rq_46_2 hI2) ?_
  refine s_iload_n kx_37_13 rfl ?_
  refine s_iconst (v := 0) kx_37_14 (by decide) ?_
  refine r_ast (k := 49) kx_37_15 (tk_49 hT) ⟨by omega, by omega⟩ hI2 ru_49 (fun M3 hI3 u3 => ?_)
  have hFm3 := hFm2.up u3 rfl
  refine s_iconst (v := 1) kx_37_16 (by decide) ?_
  refine s_istore_n kx_37_17 km_37_3 rfl ?_
  have key6 : ∀ n7 : Nat, ∀ (x3_4 : Int), ∀ M5 : cM, Rng M5 → Fr hC_37_m M M5 → Fr hC_37_l18 M3 M5 → (1 ≤ x3_4) → (x3_4 ≤ 8) → (x3_4 ≤ rooms) → (pLq M5 49 (pIt 1000000000 pr to.toNat rooms.toNat (x3_4 - 1).toNat)) → (2147483647 - x3_4).toNat < n7 → cP k_P xs Ln (d + 1) 37 18 [(0, rf 46), (1, (0, rooms)), (3, (0, x3_4))] [] (T, M5) (qV T M hC_37_m (fun M1 => pLq M1 49 (pIt 1000000000 pr to.toNat rooms.toNat (rooms.toNat - 1)))) := by
    intro n7
    induction n7 with
    | zero => intro x3_4 M5 hI5 hFm5 fl5 i8 i9 i10 i11 hm12; exact absurd hm12 (Nat.not_lt_zero _)
    | succ n7 ih13 =>
      intro x3_4 M5 hI5 hFm5 fl5 i8 i9 i10 i11 hm12
      refine s_iload_n kx_37_18 rfl ?_
      refine s_iload_n kx_37_19 rfl ?_
      refine s_icmp_ge (t := 118) kx_37_20 (by decide) (fun hc14 => ?_) (fun hc14 => ?_)
      · exact s_vret kx_37_118 kq_37 ⟨_, rfl, rfl, hI5, hFm5, (by have h9 := i11; rw [show x3_4 = rooms by omega, show (rooms - 1).toNat = rooms.toNat - 1 by omega] at h9; exact h9)⟩
      · refine s_iconst (v := 0) kx_37_23 (by decide) ?_
        refine s_istore kx_37_24 km_37_4 rfl ?_
        have key17 : ∀ n18 : Nat, ∀ (x4_15 : Int), ∀ M16 : cM, Rng M16 → Fr hC_37_m M M16 → Fr hC_37_l18 M3 M16 → Fr hC_37_l26 M5 M16 → (0 ≤ x4_15) → (x4_15 ≤ 8) → (x4_15 ≤ rooms) → (pLq M16 49 (pRd pr (pIt 1000000000 pr to.toNat rooms.toNat (x3_4 - 1).toNat) rooms.toNat (x4_15).toNat)) → (2147483647 - x4_15).toNat < n18 → cP k_P xs Ln (d + 1) 37 26 [(0, rf 46), (1, (0, rooms)), (3, (0, x3_4)), (4, (0, x4_15))] [] (T, M16) (qV T M hC_37_m (fun M1 => pLq M1 49 (pIt 1000000000 pr to.toNat rooms.toNat (rooms.toNat - 1)))) := by
          intro n18
          induction n18 with
          | zero => intro x4_15 M16 hI16 hFm16 hFl1816 fl16 i19 i20 i21 i22 hm23; exact absurd hm23 (Nat.not_lt_zero _)
          | succ n18 ih24 =>
            intro x4_15 M16 hI16 hFm16 hFl1816 fl16 i19 i20 i21 i22 hm23
            refine s_iload kx_37_26 rfl ?_
            refine s_iload_n kx_37_28 rfl ?_
            refine s_icmp_ge (t := 112) kx_37_29 (by decide) (fun hc25 => ?_) (fun hc25 => ?_)
            · refine r_iinc kx_37_112 rfl km_37_3 (by decide) ⟨by omega, by omega⟩ rfl ?_
              refine s_goto (t := 18) kx_37_115 (by decide) ?_
              exact cP.wk (lS1 rfl (lS1 rfl (lS1 rfl lS0))) (ih13 (x3_4 + 1) M16 hI16 hFm16 hFl1816 (by omega) (by omega) (by omega) (pLq.rnd i22 (by omega) (by omega)) (by omega))
            · refine s_iconst (v := 0) kx_37_32 (by decide) ?_
              refine s_istore kx_37_33 km_37_5 rfl ?_
              have key28 : ∀ n29 : Nat, ∀ (x5_26 : Int), ∀ M27 : cM, Rng M27 → Fr hC_37_m M M27 → Fr hC_37_l18 M3 M27 → Fr hC_37_l26 M5 M27 → Fr hC_37_l35 M16 M27 → (0 ≤ x5_26) → (x5_26 ≤ 8) → (x5_26 ≤ rooms) → (pLq M27 49 (pRw pr (pRd pr (pIt 1000000000 pr to.toNat rooms.toNat (x3_4 - 1).toNat) rooms.toNat (x4_15).toNat) (x4_15).toNat (x5_26).toNat)) → (2147483647 - x5_26).toNat < n29 → cP k_P xs Ln (d + 1) 37 35 [(0, rf 46), (1, (0, rooms)), (3, (0, x3_4)), (4, (0, x4_15)), (5, (0, x5_26))] [] (T, M27) (qV T M hC_37_m (fun M1 => pLq M1 49 (pIt 1000000000 pr to.toNat rooms.toNat (rooms.toNat - 1)))) := by
                intro n29
                induction n29 with
                | zero => intro x5_26 M27 hI27 hFm27 hFl1827 hFl2627 fl27 i30 i31 i32 i33 hm34; exact absurd hm34 (Nat.not_lt_zero _)
                | succ n29 ih35 =>
                  intro x5_26 M27 hI27 hFm27 hFl1827 hFl2627 fl27 i30 i31 i32 i33 hm34
                  refine s_iload kx_37_35 rfl ?_
                  refine s_iload_n kx_37_37 rfl ?_
                  refine s_icmp_ge (t := 106) kx_37_38 (by decide) (fun hc36 => ?_) (fun hc36 => ?_)
                  · refine r_iinc kx_37_106 rfl km_37_4 (by decide) ⟨by omega, by omega⟩ rfl ?_
                    refine s_goto (t := 26) kx_37_109 (by decide) ?_
                    exact cP.wk (lS1 rfl (lS1 rfl (lS1 rfl (lS1 rfl lS0)))) (ih24 (x4_15 + 1) M27 hI27 hFm27 hFl1827 hFl2627 (by omega) (by omega) (by omega) (pLq.row i33 (by omega) (by omega)) (by omega))
                  · refine s_aload_n kx_37_41 rfl ?_
                    refine r_getR (k := 46) (f := 0) (k2 := 47) kx_37_42 kp_37_9 (tk_46 hT) kf_4_0 (by decide) (rq_46_0 hI27) ?_
                    refine s_iload kx_37_45 rfl ?_
                    refine s_bipush (v := 8) kx_37_47 (by decide) ?_
                    refine r_mul kx_37_49 ⟨by omega, by omega⟩ ?_
                    refine s_iload kx_37_50 rfl ?_
                    refine r_add kx_37_52 ⟨by omega, by omega⟩ ?_
                    refine r_aldU (k := 47) kx_37_53 (tk_47 hT) ⟨by omega, by omega⟩ (fun v37 v37e => ?_)
                    have v37p : pr (x4_15).toNat (x5_26).toNat = v37 := (hpr _ _ (by omega) (by omega)).symm.trans ((congrArg (M 47) (by omega)).trans ((((fl27 47 _ rfl).trans ((fl16 47 _ rfl).trans ((fl5 47 _ rfl).trans ((u3.2 47 _ (by omega)).trans (fr2 47 _ rfl)))))).symm.trans v37e))
                    have v37b := hpb (x4_15).toNat (x5_26).toNat (by omega) (by omega)
                    rw [v37p] at v37b
                    refine s_istore kx_37_54 km_37_6 rfl ?_
                    refine s_iload kx_37_56 rfl ?_
                    refine s_if_le (t := 100) kx_37_58 (by decide) (fun hc38 => ?_) (fun hc38 => ?_)
                    · refine r_iinc kx_37_100 rfl km_37_5 (by decide) ⟨by omega, by omega⟩ rfl ?_
                      refine s_goto (t := 35) kx_37_103 (by decide) ?_
                      exact cP.wk (lS1 rfl (lS1 rfl (lS1 rfl (lS1 rfl (lS1 rfl lS0))))) (ih35 (x5_26 + 1) M27 hI27 hFm27 hFl1827 hFl2627 fl27 (by omega) (by omega) (by omega) (pLq.no i33 ⟨by omega, by omega⟩ ⟨by omega, by omega⟩ v37p rfl rfl (fun z => by omega)) (by omega))
                    · refine s_aload_n kx_37_61 rfl ?_
                      refine r_getR (k := 46) (f := 2) (k2 := 49) kx_37_62 kp_37_18 (tk_46 hT) kf_4_2 (by decide) (rq_46_2 hI27) ?_
                      refine s_iload kx_37_65 rfl ?_
                      refine r_aldU (k := 49) kx_37_67 (tk_49 hT) ⟨by omega, by omega⟩ (fun v39 v39e => ?_)
                      have v39b := pLq.b (R := 1000000000) (hR := by decide) (i := (x5_26).toNat) i33 (by omega) (by omega) (by omega) v39e
                      refine s_ldc kx_37_68 kp_37_74 ?_
                      refine s_icmp_ge (t := 100) kx_37_70 (by decide) (fun hc40 => ?_) (fun hc40 => ?_)
                      · refine r_iinc kx_37_100 rfl km_37_5 (by decide) ⟨by omega, by omega⟩ rfl ?_
                        refine s_goto (t := 35) kx_37_103 (by decide) ?_
                        exact cP.wk (lS1 rfl (lS1 rfl (lS1 rfl (lS1 rfl (lS1 rfl lS0))))) (ih35 (x5_26 + 1) M27 hI27 hFm27 hFl1827 hFl2627 fl27 (by omega) (by omega) (by omega) (pLq.no i33 ⟨by omega, by omega⟩ ⟨by omega, by omega⟩ v37p rfl v39e (fun z => by have h9 := pLq.b (R := 1000000000) (hR := by decide) (i := (x4_15).toNat) i33 (by omega) (by omega) (by omega) rfl; omega)) (by omega))
                      · refine s_aload_n kx_37_73 rfl ?_
                        refine r_getR (k := 46) (f := 2) (k2 := 49) kx_37_74 kp_37_18 (tk_46 hT) kf_4_2 (by decide) (rq_46_2 hI27) ?_
                        refine s_iload kx_37_77 rfl ?_
                        refine s_aload_n kx_37_79 rfl ?_
                        refine r_getR (k := 46) (f := 2) (k2 := 49) kx_37_80 kp_37_18 (tk_46 hT) kf_4_2 (by decide) (rq_46_2 hI27) ?_
                        refine s_iload kx_37_83 rfl ?_
                        refine r_aldU (k := 49) kx_37_85 (tk_49 hT) ⟨by omega, by omega⟩ (fun v41 v41e => ?_)
                        have v41b := pLq.b (R := 1000000000) (hR := by decide) (i := (x4_15).toNat) i33 (by omega) (by omega) (by omega) v41e
                        refine s_iload kx_37_86 rfl ?_
                        refine s_aload_n kx_37_88 rfl ?_
                        refine r_getR (k := 46) (f := 2) (k2 := 49) kx_37_89 kp_37_18 (tk_46 hT) kf_4_2 (by decide) (rq_46_2 hI27) ?_
                        refine s_iload kx_37_92 rfl ?_
                        refine r_aldK (k := 49) kx_37_94 (tk_49 hT) ⟨by omega, by omega⟩ v39e ?_
                        refine r_add kx_37_95 ⟨by omega, by omega⟩ ?_
                        refine s_callS2 (s1 := 2) (s2 := 2) (as := [(0, (v37 + v39)), (0, v41)]) (rest := [(0, x4_15), rf 49]) kx_37_96 kp_37_78 rfl kcl_299 rfl rfl (by decide) (m_299 (d := d) (a := v41) (b := (v37 + v39)) hT hI27) (kF (fun v42 v42p => ?_))
                        refine r_ast (k := 49) kx_37_99 (tk_49 hT) ⟨by omega, by omega⟩ hI27 ru_49 (fun M43 hI43 u43 => ?_)
                        have hFm43 := hFm27.up u43 rfl
                        have hFl1843 := hFl1827.up u43 rfl
                        have hFl2643 := hFl2627.up u43 rfl
                        have hFl3543 := fl27.up u43 rfl
                        refine r_iinc kx_37_100 rfl km_37_5 (by decide) ⟨by omega, by omega⟩ rfl ?_
                        refine s_goto (t := 35) kx_37_103 (by decide) ?_
                        exact cP.wk (lS1 rfl (lS1 rfl (lS1 rfl (lS1 rfl (lS1 rfl lS0))))) (ih35 (x5_26 + 1) M43 hI43 hFm43 hFl1843 hFl2643 hFl3543 (by omega) (by omega) (by omega) (pLq.set i33 u43 (by omega) ⟨by omega, by omega⟩ ⟨by omega, by omega⟩ v37p v41e v39e (by omega)) (by omega))
              exact cP.wk (lS1 rfl (lS1 rfl (lS1 rfl (lS1 rfl (lS1 rfl lS0))))) (key28 _ 0 M16 hI16 hFm16 hFl1816 fl16 Fr.refl (by omega) (by omega) (by omega) i22 (Nat.lt_succ_self _))
        exact cP.wk (lS1 rfl (lS1 rfl (lS1 rfl (lS1 rfl lS0)))) (key17 _ 0 M5 hI5 hFm5 fl5 Fr.refl (by omega) (by omega) (by omega) i11 (Nat.lt_succ_self _))
  exact cP.wk (lS1 rfl (lS1 rfl (lS1 rfl lS0))) (key6 _ 1 M3 hI3 hFm3 Fr.refl (by omega) (by omega) (by omega) (pLq.z v1p u3 (by omega)) (Nat.lt_succ_self _))
