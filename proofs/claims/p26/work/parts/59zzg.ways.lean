def gC_83_l64 : List (Nat × Nat) := [(58, 99999), (59, 99999), (60, 99999)]
def gC_83_m : List (Nat × Nat) := [(54, 6), (54, 7), (56, 99999), (57, 99999), (58, 99999), (59, 99999), (60, 99999)]
theorem g_83 {xs : Nat → Int} {Ln d : Nat} {T : List cK} {M : cM} (hT : TT T) (hI : Rng M) {t : Nat} (ht : t = 8 ∨ t = 25) (h70 : M 7 0 = ((t : Nat) : Int)) {D S : cM} (hC : CR D S t M) {w : Int → Int} (hw : ∀ r : Int, 0 ≤ r → r < 8 → M 55 r.toNat = w r) (hw1 : ∀ r, -1 ≤ w r) : cC k_P xs Ln (d + 4) 83 [rf 54, rf 7] (T, M) (qW T M gC_83_m 0 (fun v M1 => v = wr32 (WHT D S w) ∧ WHR D S w M1 ∧ M1 54 6 = 1)) := by
  show cP k_P xs Ln (d + 4) 83 0 [(0, rf 54), (1, rf 7)] [] (T, M) _
  have hFm : Fr gC_83_m M M := Fr.refl
  have hD := hC.2.1
  have hDr := hD.rg
  have hSW := hC.2.2.2.2
  refine s_aload_n kx_83_0 rfl ?_
  refine s_iconst (v := 1) kx_83_1 (by decide) ?_
  refine r_put (k := 54) (f := 6) kx_83_2 kp_83_30 (tk_54 hT) kf_6_6 rfl (by decide) (by decide) hI (ru_54_6 (by omega) (by omega)) (fun M1 hI1 u1 => ?_)
  have hFm1 := hFm.up u1 rfl
  have hc2 := (CR.up hC u1 ht (by omega))
  refine s_aload_n kx_83_5 rfl ?_
  refine r_getR (k := 54) (f := 5) (k2 := 60) kx_83_6 kp_83_27 (tk_54 hT) kf_6_5 (by decide) (rq_54_5 hI1) ?_
  refine s_iconst (v := 0) kx_83_9 (by decide) ?_
  refine s_callS2 (s1 := 2) (s2 := 0) (as := [(0, 0), rf 60]) (rest := []) kx_83_10 kp_83_100 rfl kcl_301 rfl rfl (by decide) (f_fill (d := d + 3) (val := 0) hT hI1 (k := 60) (n := 64) (tk_60 hT) (by decide) (fun _ => ru_60)) (kV (fun M4 hI4 fr4 v3p => ?_))
  have hFm4 := hFm1.call fr4 rfl
  have hW0 : WIN D S w (D 0 1 - 1) 0 M4 := WIN.st (fun i hi => v3p i (by omega)) rfl
  have hc5 := (CR.fr hc2 fr4 ht rfl)
  refine s_aload_n kx_83_13 rfl ?_
  refine s_aload_n kx_83_14 rfl ?_
  refine r_getR (k := 7) (f := 0) (k2 := t) kx_83_15 kp_83_48 (tk_7 hT) kf_5_0 (by decide) ((fr4 7 0 rfl).trans ((u1.2 7 0 (by omega)).trans h70)) ?_
  refine r_getI (k := t) (f := 1) kx_83_18 kp_83_58 (tkt_0 hT ht) kf_9_1 (fun _ => rfl) (rgt_0_1 hI4 ht) (fun v6 v6e v6a v6b => ?_)
  have v6d : D 0 1 = v6 := ((hc5).1 0 1 (by decide)).symm.trans v6e
  have v6z : M t 1 = v6 := (((fr4 t 1 (by rcases ht with rfl | rfl <;> rfl)).trans (u1.2 t 1 (by omega)))).symm.trans v6e
  refine s_callV2 (k := 54) (s1 := 2) (s2 := 0) (as := [(0, v6)]) (rest := []) kx_83_21 kp_83_106 (Or.inl rfl) rfl (tk_54 hT) ki_84 kcl_84 rfl rfl (by decide) (g_84 (d := d + 2) (people := v6) hT hI4 (w := w) (fun r r0 r1 => (((fr4 55 _ rfl).trans (u1.2 55 _ (by omega)))).trans (hw r r0 r1)) hw1 (by omega)) (kW (fun v7 M8 hI8 fr8 v7p => ?_))
  have hFm8 := hFm4.call fr8 rfl
  have hc9 := (CR.fr hc5 fr8 ht rfl)
  refine s_if_ne (t := 29) kx_83_24 (by decide) (fun hc10 => ?_) (fun hc10 => ?_)
  · replace v7p := v7p.resolve_right (by omega)
    refine s_aload_n kx_83_29 rfl ?_
    refine s_aload_n kx_83_30 rfl ?_
    refine s_callV2 (k := 54) (s1 := 2) (s2 := 0) (as := [rf 7]) (rest := []) kx_83_31 kp_83_109 (Or.inl rfl) rfl (tk_54 hT) ki_85 kcl_85 rfl rfl (by decide) (g_85 (d := d) hT hI8 ht ((fr8 7 0 rfl).trans ((fr4 7 0 rfl).trans ((u1.2 7 0 (by omega)).trans h70))) hc9 v7p.2.2) (kV (fun M12 hI12 fr12 v11p => ?_))
    have hFm12 := hFm8.call fr12 rfl
    have hL9 := v7p.2.2
    have hw9 : ∀ r, -1 ≤ w r := hL9.2.2.2
    have hS2 := hL9.2.2.1
    have hS1 := pPr_pos (rdxC hw9).1 8
    have hsm : pSum (cAs w) 8 ≤ D 0 1 := (by have h9 := v7p.2.1; omega)
    have hc13 := (CR.fr hc9 fr12 ht rfl)
    refine s_aload_n kx_83_34 rfl ?_
    refine r_getR (k := 54) (f := 3) (k2 := 58) kx_83_35 kp_83_21 (tk_54 hT) kf_6_3 (by decide) (rq_54_3 hI12) ?_
    refine s_iconst (v := 0) kx_83_38 (by decide) ?_
    refine s_callS2 (s1 := 2) (s2 := 0) (as := [(0, 0), rf 58]) (rest := []) kx_83_39 kp_83_100 rfl kcl_301 rfl rfl (by decide) (f_fill (d := d + 3) (val := 0) hT hI12 (k := 58) (n := 256) (tk_58 hT) (by decide) (fun _ => ru_58)) (kV (fun M15 hI15 fr15 v14p => ?_))
    have hFm15 := hFm12.call fr15 rfl
    have hc16 := (CR.fr hc13 fr15 ht rfl)
    refine s_aload_n kx_83_42 rfl ?_
    refine r_getR (k := 54) (f := 3) (k2 := 58) kx_83_43 kp_83_21 (tk_54 hT) kf_6_3 (by decide) (rq_54_3 hI15) ?_
    refine s_aload_n kx_83_46 rfl ?_
    refine r_getU (k := 54) (f := 7) kx_83_47 kp_83_34 (tk_54 hT) kf_6_7 (fun _ => rfl) (fun v17 v17e => ?_)
    have v17S : v17 = pPr (cAs w) 8 := v17e.symm.trans (STL.fr (STL.fr v7p.2.2 fr12 rfl (fun _ => rfl) (fun _ => rfl)) fr15 rfl (fun _ => rfl) (fun _ => rfl)).2.1
    refine s_iconst (v := 1) kx_83_50 (by decide) ?_
    refine r_sub kx_83_51 ⟨by omega, by omega⟩ ?_
    refine s_iconst (v := 1) kx_83_52 (by decide) ?_
    refine r_ast (k := 58) kx_83_53 (tk_58 hT) ⟨by omega, by omega⟩ hI15 ru_58 (fun M18 hI18 u18 => ?_)
    have hFm18 := hFm15.up u18 rfl
    have hc19 := (CR.up hc16 u18 ht (by omega))
    refine s_aload_n kx_83_54 rfl ?_
    refine r_getR (k := 7) (f := 0) (k2 := t) kx_83_55 kp_83_48 (tk_7 hT) kf_5_0 (by decide) ((u18.2 7 0 (by omega)).trans ((fr15 7 0 rfl).trans ((fr12 7 0 rfl).trans ((fr8 7 0 rfl).trans ((fr4 7 0 rfl).trans ((u1.2 7 0 (by omega)).trans h70)))))) ?_
    refine r_getK (k := t) (f := 1) kx_83_58 kp_83_58 (tkt_0 hT ht) kf_9_1 (fun _ => rfl) ((u18.2 t 1 (by omega)).trans ((fr15 t 1 (by rcases ht with rfl | rfl <;> rfl)).trans ((fr12 t 1 (by rcases ht with rfl | rfl <;> rfl)).trans ((fr8 t 1 (by rcases ht with rfl | rfl <;> rfl)).trans v6e)))) ?_
    refine s_iconst (v := 1) kx_83_61 (by decide) ?_
    refine r_sub kx_83_62 ⟨by omega, by omega⟩ ?_
    refine s_istore_n kx_83_63 km_83_2 rfl ?_
    have key22 : ∀ n23 : Nat, ∀ (x2_20 : Int), ∀ M21 : cM, Rng M21 → Fr gC_83_m M M21 → Fr gC_83_l64 M18 M21 → ((-1) ≤ x2_20) → (x2_20 ≤ 7) → (x2_20 ≤ D 0 1 - 1) → (AFT D S w (D 0 1 - 1 - x2_20) M21) → (WIN D S w x2_20 0 M21) → (x2_20 + 2).toNat < n23 → cP k_P xs Ln (d + 4) 83 64 [(0, rf 54), (1, rf 7), (2, (0, x2_20))] [] (T, M21) (qW T M gC_83_m 0 (fun v M1 => v = wr32 (WHT D S w) ∧ WHR D S w M1 ∧ M1 54 6 = 1)) := by
      intro n23
      induction n23 with
      | zero => intro x2_20 M21 hI21 hFm21 fl21 i24 i25 i26 i27 i28 hm29; exact absurd hm29 (Nat.not_lt_zero _)
      | succ n23 ih30 =>
        intro x2_20 M21 hI21 hFm21 fl21 i24 i25 i26 i27 i28 hm29
        have hq0 : True := trivial
        refine s_iload_n kx_83_64 rfl ?_
        refine s_if_lt (t := 80) kx_83_65 (by decide) (fun hc31 => ?_) (fun hc31 => ?_)
        · refine s_aload_n kx_83_80 rfl ?_
          refine r_getR (k := 54) (f := 3) (k2 := 58) kx_83_81 kp_83_21 (tk_54 hT) kf_6_3 (by decide) (rq_54_3 hI21) ?_
          refine s_iconst (v := 0) kx_83_84 (by decide) ?_
          refine r_aldU (k := 58) kx_83_85 (tk_58 hT) ⟨by decide, by decide⟩ (fun v32 v32e => ?_)
          exact s_iret kx_83_86 (Or.inl kq_83) ⟨_, _, rfl, rfl, hI21, hFm21, ⟨by unfold WHT; rw [if_pos hsm]; have h9 := i27; rw [show D 0 1 - 1 - x2_20 = D 0 1 by omega] at h9; have h8 := tot8 hw9 (by omega) ⟨by omega, by omega⟩ h9; have h7 : (0 : Int).toNat = 0 := rfl; rw [h7] at v32e; exact v32e.symm.trans h8, WHR.of hw9 (by omega) (by omega) (by have h9 := i28; rw [show x2_20 = -1 by omega] at h9; exact h9) hsm, ((fl21 54 6 rfl).trans ((u18.2 54 6 (by omega)).trans ((fr15 54 6 rfl).trans ((fr12 54 6 rfl).trans ((fr8 54 6 rfl).trans ((fr4 54 6 rfl).trans u1.1))))))⟩⟩
        · refine s_aload_n kx_83_68 rfl ?_
          refine s_aload_n kx_83_69 rfl ?_
          refine s_iload_n kx_83_70 rfl ?_
          refine s_callV2 (k := 54) (s1 := 3) (s2 := 0) (as := [(0, x2_20), rf 7]) (rest := []) kx_83_71 kp_83_113 (Or.inl rfl) rfl (tk_54 hT) ki_86 kcl_86 rfl rfl (by decide) (g_86 (d := d) (person := x2_20) hT hI21 ht ((fl21 7 0 rfl).trans ((u18.2 7 0 (by omega)).trans ((fr15 7 0 rfl).trans ((fr12 7 0 rfl).trans ((fr8 7 0 rfl).trans ((fr4 7 0 rfl).trans ((u1.2 7 0 (by omega)).trans h70))))))) (CR.fr hc19 fl21 ht rfl) (STL.fr (STL.up (STL.fr (STL.fr v7p.2.2 fr12 rfl (fun _ => rfl) (fun _ => rfl)) fr15 rfl (fun _ => rfl) (fun _ => rfl)) u18 (by decide)) fl21 rfl (fun _ => rfl) (fun _ => rfl)) (BFD.fr (BFD.up (BFD.fr v11p fr15 (fun _ => rfl)) u18 (by decide)) fl21 (fun _ => rfl)) i27 i28 (by omega) (by omega)) (kV (fun M34 hI34 fr34 v33p => ?_))
          have hFm34 := hFm21.call fr34 rfl
          have hFl6434 := fl21.call fr34 rfl
          have hc35 := (CR.fr (CR.fr hc19 fl21 ht rfl) fr34 ht rfl)
          refine r_iinc kx_83_74 rfl km_83_2 (by decide) ⟨by omega, by omega⟩ rfl ?_
          refine s_goto (t := 64) kx_83_77 (by decide) ?_
          exact cP.wk (lS1 rfl (lS1 rfl (lS1 rfl lS0))) (ih30 (x2_20 + (-1)) M34 hI34 hFm34 hFl6434 (by omega) (by omega) (by omega) (by rw [show D 0 1 - 1 - (x2_20 + (-1)) = D 0 1 - x2_20 by omega]; exact v33p.1) (by rw [show x2_20 + (-1) = x2_20 - 1 by omega]; exact v33p.2) (by omega))
    exact cP.wk (lS1 rfl (lS1 rfl (lS1 rfl lS0))) (key22 _ (v6 - 1) M18 hI18 hFm18 Fr.refl (by omega) (by omega) (by omega) (by rw [show D 0 1 - 1 - ((v6 - 1)) = 0 by omega]; exact AFT.st (fun i hi => v14p i (by omega)) hS2 u18 (by omega) hS1) (by rw [show (v6 - 1) = D 0 1 - 1 by omega]; exact (WIN.up (WIN.fr (WIN.fr (WIN.fr hW0 fr8 (fun _ => rfl)) fr12 (fun _ => rfl)) fr15 (fun _ => rfl)) u18 (by decide))) (Nat.lt_succ_self _))
  · replace v7p := v7p.resolve_left (by omega)
    refine s_iconst (v := 0) kx_83_27 (by decide) ?_
    exact s_iret kx_83_28 (Or.inl kq_83) ⟨_, _, rfl, rfl, hI8, hFm8, ⟨by unfold WHT; rw [if_neg (by omega), wr_0], WHR.no (by omega) (by omega) (WIN.fr hW0 fr8 (fun _ => rfl)) (by omega), ((fr8 54 6 rfl).trans ((fr4 54 6 rfl).trans u1.1))⟩⟩
