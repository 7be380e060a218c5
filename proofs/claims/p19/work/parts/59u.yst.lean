/-! statement and its end, of the reference -/
def yFi (s : Nat → Int) (n f q m : Int) : Int := if f ≠ 0 then f else if owG s n q 59 = 0 then owU s n q else if m = 80 ∧ owB s n (owE s n q) < n then 60000 + owB s n (owE s n q) else 0
section YU
variable {M M1 D : cM} {s : Nat → Int} {n f q m : Int}
theorem yfi_lx (h : yLx s n f q ≠ 0) : yFi s n f q m = yLx s n f q := by
  unfold yLx at h ⊢
  unfold yFi owU
  by_cases h0 : f ≠ 0
  · rw [if_pos h0, if_pos h0]
  · rw [if_neg h0] at h
    rw [if_neg h0, if_neg h0]
    by_cases h5 : owK s n q = 5
    · rw [if_pos h5, if_pos h5, if_pos (owG_K (by omega))]
    · rw [if_neg h5] at h; omega
theorem yfi_eq {g q' : Int} (h : Yst M s n (yMg s n g q 59) q') (hf : f = 0) (h5 : owK s n q ≠ 5) (hg : (g = 0 ∧ ¬ (owG s n q 59 = 1 ∧ m = 80 ∧ owB s n (owE s n q) < n)) ∨ (g = 60000 + owB s n (owE s n q) ∧ g ≠ 0 ∧ owG s n q 59 = 1 ∧ m = 80 ∧ owB s n (owE s n q) < n)) : Yst M s n (yFi s n f q m) q' := by
  have e : yMg s n g q 59 = yFi s n f q m := by
    have hg01 := owG01 (s := s) (n := n) (p := q) (c := 59)
    unfold yMg yFi
    (repeat' split) <;> omega
  rw [← e]
  exact h
end YU
def gS_215_m : List (Nat × Nat) := [(63, 10), (63, 13), (63, 3), (63, 4), (63, 5), (63, 6), (63, 7), (63, 8), (63, 9)]
def gS_215_l17 : List (Nat × Nat) := []
theorem f_215 {xs : Nat → Int} {Ln d : Nat} {T : List cK} {M : cM} (hT : TT T) (hI : Rng M) {m_ : Int} (hX : LXp M) {s : Nat → Int} {n f q : Int} (hY : Yst M s n f q) (hn : n ≤ 1600) : cC k_P xs Ln (d + 3) 215 [rf 63, (0, m_)] (T, M) (qV T M gS_215_m (fun M1 => LXp M1 ∧ M 63 4 ≤ M1 63 4 ∧ M 63 9 ≤ M1 63 9 ∧ (PRd M M1) ∧ (Yst M1 s n (yFi s n f q m_) (owE s n q)))) := by
  show cP k_P xs Ln (d + 3) 215 0 [(0, rf 63), (1, (0, m_))] [] (T, M) _
  have hFm : Fr gS_215_m M M := Fr.refl
  have h639 := rg_63_9 hI
  have ⟨lx1, lx2⟩ := hX
  refine s_aload_n kx_215_0 rfl ?_
  refine s_callV2 (k := 63) (s1 := 1) (s2 := 0) (as := []) (rest := []) kx_215_1 kp_215_280 (Or.inl rfl) rfl (tk_63 hT) ki_179 kcl_179 rfl rfl (by decide) (f_179 (d := d + 1) hT hI hY hn) (kV (fun M2 hI2 fr2 v1p => ?_))
  have hFm2 := hFm.call fr2 rfl
  have tr3 := (fr2 63 3 rfl)
  have tr4 := (fr2 63 4 rfl)
  have tr5 := (fr2 63 5 rfl)
  have tr6 := (fr2 63 6 rfl)
  have tr7 := rg_63_9 hI2
  refine s_aload_n kx_215_4 rfl ?_
  refine r_getI (k := 63) (f := 9) kx_215_5 kp_215_39 (tk_63 hT) kf_12_9 (fun _ => rfl) (rg_63_9 hI2) (fun v8 v8e v8a v8b => ?_)
  refine s_if_le (t := 12) kx_215_8 (by decide) (fun hc9 => ?_) (fun hc9 => ?_)
  · have hz := Yst.zero v1p.1 (by omega)
    have hzk := yLx_0 hz.1 hz.2.2.2.1
    have hzb := hz.2.b hn
    have hz5 := hz.2.2.2.2.2.2.1
    have hz2 := hz.2.2.1
    have hzq := hz.2.2.2.1
    have hzn := hz.2.2.2.2.1
    have hze := owE_i2 (s := s) ⟨hzq, hzn⟩
    have hs64 := hz.2.1
    have hys0 : Yst M2 s n 0 q := Or.inr ⟨rfl, by omega, hz.2⟩
    refine s_aload_n kx_215_12 rfl ?_
    refine r_getI (k := 63) (f := 5) kx_215_13 kp_215_26 (tk_63 hT) kf_12_5 (fun _ => rfl) (rg_63_5 hI2) (fun v10 v10e v10a v10b => ?_)
    have v10z : M 63 5 = v10 := ((fr2 63 5 rfl)).symm.trans v10e
    refine s_istore_n kx_215_16 km_215_2 rfl ?_
    have key12 : ∀ n13 : Nat, ∀ (x2_11 : Int), (0 ≤ x2_11) → (x2_11 ≤ 1600) → (owE s n q ≤ x2_11) → (owB s n x2_11 = owB s n (owE s n q)) → (2147483647 - x2_11).toNat < n13 → cP k_P xs Ln (d + 3) 215 17 [(0, rf 63), (1, (0, m_)), (2, (0, x2_11))] [] (T, M2) (qV T M gS_215_m (fun M1 => LXp M1 ∧ M 63 4 ≤ M1 63 4 ∧ M 63 9 ≤ M1 63 9 ∧ (PRd M M1) ∧ (Yst M1 s n (yFi s n f q m_) (owE s n q)))) := by
      intro n13
      induction n13 with
      | zero => intro x2_11 i14 i15 i16 i17 hm18; exact absurd hm18 (Nat.not_lt_zero _)
      | succ n13 ih19 =>
        intro x2_11 i14 i15 i16 i17 hm18
        refine s_iload_n kx_215_17 rfl ?_
        refine s_aload_n kx_215_18 rfl ?_
        refine r_getI (k := 63) (f := 2) kx_215_19 kp_215_17 (tk_63 hT) kf_12_2 (fun _ => rfl) (rg_63_2 hI2) (fun v20 v20e v20a v20b => ?_)
        have v20z : M 63 2 = v20 := ((fr2 63 2 rfl)).symm.trans v20e
        refine s_icmp_ge (t := 53) kx_215_22 (by decide) (fun hc21 => ?_) (fun hc21 => ?_)
        · have hB : x2_11 = owB s n (owE s n q) := owB_stop i17 (by omega)
          refine s_aload_n kx_215_53 rfl ?_
          refine s_bipush (v := 59) kx_215_54 (by decide) ?_
          refine s_callV2 (k := 63) (s1 := 2) (s2 := 0) (as := [(0, 59)]) (rest := []) kx_215_56 kp_215_283 (Or.inl rfl) rfl (tk_63 hT) ki_181 kcl_181 rfl rfl (by decide) (m_181 (d := d + 2) (c := 59) hT hI2) (kF (fun v22 v22p => ?_))
          have hiss := hz.2.iss (c := 59)
          refine s_if_eq (t := 83) kx_215_59 (by decide) (fun hc23 => ?_) (fun hc23 => ?_)
          · replace v22p := v22p.resolve_left (by omega)
            refine s_aload_n kx_215_83 rfl ?_
            refine s_bipush (v := 59) kx_215_84 (by decide) ?_
            refine s_callV2 (k := 63) (s1 := 2) (s2 := 0) (as := [(0, 59)]) (rest := []) kx_215_86 kp_215_438 (Or.inl rfl) rfl (tk_63 hT) ki_183 kcl_183 rfl rfl (by decide) (f_183 (d := d) (c := 59) hT hI2 (LXp.fr hX fr2 rfl) hys0 hn) (kV (fun M25 hI25 fr25 v24p => ?_))
            have hFm25 := hFm2.call fr25 rfl
            have tr26 := rg_63_9 hI25
            exact s_vret kx_215_89 kq_215 ⟨_, rfl, rfl, hI25, hFm25, ⟨v24p.1, by omega, by omega, by unfold PRd; first | omega | (have h9 := v24p.2.2.2.1; unfold PRd at h9; omega), (yfi_eq v24p.2.2.2.2 hzk.1 hzk.2 (by omega))⟩⟩
          · replace v22p := v22p.resolve_right (by omega)
            refine s_iload_n kx_215_62 rfl ?_
            refine s_bipush (v := 80) kx_215_63 (by decide) ?_
            refine s_icmp_ne (t := 83) kx_215_65 (by decide) (fun hc27 => ?_) (fun hc27 => ?_)
            · refine s_aload_n kx_215_83 rfl ?_
              refine s_bipush (v := 59) kx_215_84 (by decide) ?_
              refine s_callV2 (k := 63) (s1 := 2) (s2 := 0) (as := [(0, 59)]) (rest := []) kx_215_86 kp_215_438 (Or.inl rfl) rfl (tk_63 hT) ki_183 kcl_183 rfl rfl (by decide) (f_183 (d := d) (c := 59) hT hI2 (LXp.fr hX fr2 rfl) hys0 hn) (kV (fun M29 hI29 fr29 v28p => ?_))
              have hFm29 := hFm2.call fr29 rfl
              have tr30 := rg_63_9 hI29
              exact s_vret kx_215_89 kq_215 ⟨_, rfl, rfl, hI29, hFm29, ⟨v28p.1, by omega, by omega, by unfold PRd; first | omega | (have h9 := v28p.2.2.2.1; unfold PRd at h9; omega), (yfi_eq v28p.2.2.2.2 hzk.1 hzk.2 (by omega))⟩⟩
            · refine s_iload_n kx_215_68 rfl ?_
              refine s_aload_n kx_215_69 rfl ?_
              refine r_getK (k := 63) (f := 2) kx_215_70 kp_215_17 (tk_63 hT) kf_12_2 (fun _ => rfl) v20e ?_
              refine s_icmp_ge (t := 83) kx_215_73 (by decide) (fun hc31 => ?_) (fun hc31 => ?_)
              · refine s_aload_n kx_215_83 rfl ?_
                refine s_bipush (v := 59) kx_215_84 (by decide) ?_
                refine s_callV2 (k := 63) (s1 := 2) (s2 := 0) (as := [(0, 59)]) (rest := []) kx_215_86 kp_215_438 (Or.inl rfl) rfl (tk_63 hT) ki_183 kcl_183 rfl rfl (by decide) (f_183 (d := d) (c := 59) hT hI2 (LXp.fr hX fr2 rfl) hys0 hn) (kV (fun M33 hI33 fr33 v32p => ?_))
                have hFm33 := hFm2.call fr33 rfl
                have tr34 := rg_63_9 hI33
                exact s_vret kx_215_89 kq_215 ⟨_, rfl, rfl, hI33, hFm33, ⟨v32p.1, by omega, by omega, by unfold PRd; first | omega | (have h9 := v32p.2.2.2.1; unfold PRd at h9; omega), (yfi_eq v32p.2.2.2.2 hzk.1 hzk.2 (by omega))⟩⟩
              · refine s_aload_n kx_215_76 rfl ?_
                refine s_bipush (v := 6) kx_215_77 (by decide) ?_
                refine s_iload_n kx_215_79 rfl ?_
                refine s_callV2 (k := 63) (s1 := 3) (s2 := 0) (as := [(0, x2_11), (0, 6)]) (rest := []) kx_215_80 kp_215_263 (Or.inl rfl) rfl (tk_63 hT) ki_176 kcl_176 rfl rfl (by decide) (f_176 (d := d + 2) (kind := 6) (place := x2_11) hT hI2 (by omega)) (kV (fun M36 hI36 fr36 v35p => ?_))
                have hFm36 := hFm2.call fr36 rfl
                have tr37 := (fr36 63 3 rfl)
                have tr38 := (fr36 63 4 rfl)
                have tr39 := (fr36 63 5 rfl)
                have tr40 := (fr36 63 6 rfl)
                have tr41 := rg_63_9 hI36
                have hy642 : Yst M36 s n (60000 + owB s n (owE s n q)) q := yst_bl (k := 6) (x := owB s n (owE s n q)) (by omega) (by omega) (by decide) (by omega) (by omega)
                refine s_aload_n kx_215_83 rfl ?_
                refine s_bipush (v := 59) kx_215_84 (by decide) ?_
                refine s_callV2 (k := 63) (s1 := 2) (s2 := 0) (as := [(0, 59)]) (rest := []) kx_215_86 kp_215_438 (Or.inl rfl) rfl (tk_63 hT) ki_183 kcl_183 rfl rfl (by decide) (f_183 (d := d) (c := 59) hT hI36 (LXp.fr (LXp.fr hX fr2 rfl) fr36 rfl) hy642 hn) (kV (fun M44 hI44 fr44 v43p => ?_))
                have hFm44 := hFm36.call fr44 rfl
                have tr45 := rg_63_9 hI44
                exact s_vret kx_215_89 kq_215 ⟨_, rfl, rfl, hI44, hFm44, ⟨v43p.1, by omega, by omega, by unfold PRd; first | omega | (have h9 := v43p.2.2.2.1; unfold PRd at h9; omega), (yfi_eq v43p.2.2.2.2 hzk.1 hzk.2 (by omega))⟩⟩
        · refine s_aload_n kx_215_25 rfl ?_
          refine r_getR (k := 63) (f := 0) (k2 := 64) kx_215_26 kp_215_7 (tk_63 hT) kf_12_0 (by decide) (rq_63_0 hI2) ?_
          refine s_iload_n kx_215_29 rfl ?_
          refine r_ald (k := 64) kx_215_30 (tk_64 hT) ⟨by omega, by omega⟩ (rg_64 hI2) (fun v46 v46e v46a v46b => ?_)
          have v46s : s (x2_11).toNat = v46 := (congrFun hs64 (x2_11).toNat).symm.trans v46e
          refine s_bipush (v := 32) kx_215_31 (by decide) ?_
          refine s_icmp_eq (t := 47) kx_215_33 (by decide) (fun hc47 => ?_) (fun hc47 => ?_)
          · refine r_iinc kx_215_47 rfl km_215_2 (by decide) ⟨by omega, by omega⟩ rfl ?_
            refine s_goto (t := 17) kx_215_50 (by decide) ?_
            exact cP.wk (lS1 rfl (lS1 rfl (lS1 rfl lS0))) (ih19 (x2_11 + 1) (by omega) (by omega) (by omega) (owB_step i17 (by omega) (by omega)).1 (by omega))
          · refine s_aload_n kx_215_36 rfl ?_
            refine r_getR (k := 63) (f := 0) (k2 := 64) kx_215_37 kp_215_7 (tk_63 hT) kf_12_0 (by decide) (rq_63_0 hI2) ?_
            refine s_iload_n kx_215_40 rfl ?_
            refine r_aldK (k := 64) kx_215_41 (tk_64 hT) ⟨by omega, by omega⟩ v46e ?_
            refine s_bipush (v := 10) kx_215_42 (by decide) ?_
            refine s_icmp_ne (t := 53) kx_215_44 (by decide) (fun hc48 => ?_) (fun hc48 => ?_)
            · have hB : x2_11 = owB s n (owE s n q) := owB_stop i17 (by omega)
              refine s_aload_n kx_215_53 rfl ?_
              refine s_bipush (v := 59) kx_215_54 (by decide) ?_
              refine s_callV2 (k := 63) (s1 := 2) (s2 := 0) (as := [(0, 59)]) (rest := []) kx_215_56 kp_215_283 (Or.inl rfl) rfl (tk_63 hT) ki_181 kcl_181 rfl rfl (by decide) (m_181 (d := d + 2) (c := 59) hT hI2) (kF (fun v49 v49p => ?_))
              have hiss := hz.2.iss (c := 59)
              refine s_if_eq (t := 83) kx_215_59 (by decide) (fun hc50 => ?_) (fun hc50 => ?_)
              · replace v49p := v49p.resolve_left (by omega)
                refine s_aload_n kx_215_83 rfl ?_
                refine s_bipush (v := 59) kx_215_84 (by decide) ?_
                refine s_callV2 (k := 63) (s1 := 2) (s2 := 0) (as := [(0, 59)]) (rest := []) kx_215_86 kp_215_438 (Or.inl rfl) rfl (tk_63 hT) ki_183 kcl_183 rfl rfl (by decide) (f_183 (d := d) (c := 59) hT hI2 (LXp.fr hX fr2 rfl) hys0 hn) (kV (fun M52 hI52 fr52 v51p => ?_))
                have hFm52 := hFm2.call fr52 rfl
                have tr53 := rg_63_9 hI52
                exact s_vret kx_215_89 kq_215 ⟨_, rfl, rfl, hI52, hFm52, ⟨v51p.1, by omega, by omega, by unfold PRd; first | omega | (have h9 := v51p.2.2.2.1; unfold PRd at h9; omega), (yfi_eq v51p.2.2.2.2 hzk.1 hzk.2 (by omega))⟩⟩
              · replace v49p := v49p.resolve_right (by omega)
                refine s_iload_n kx_215_62 rfl ?_
                refine s_bipush (v := 80) kx_215_63 (by decide) ?_
                refine s_icmp_ne (t := 83) kx_215_65 (by decide) (fun hc54 => ?_) (fun hc54 => ?_)
                · refine s_aload_n kx_215_83 rfl ?_
                  refine s_bipush (v := 59) kx_215_84 (by decide) ?_
                  refine s_callV2 (k := 63) (s1 := 2) (s2 := 0) (as := [(0, 59)]) (rest := []) kx_215_86 kp_215_438 (Or.inl rfl) rfl (tk_63 hT) ki_183 kcl_183 rfl rfl (by decide) (f_183 (d := d) (c := 59) hT hI2 (LXp.fr hX fr2 rfl) hys0 hn) (kV (fun M56 hI56 fr56 v55p => ?_))
                  have hFm56 := hFm2.call fr56 rfl
                  have tr57 := rg_63_9 hI56
                  exact s_vret kx_215_89 kq_215 ⟨_, rfl, rfl, hI56, hFm56, ⟨v55p.1, by omega, by omega, by unfold PRd; first | omega | (have h9 := v55p.2.2.2.1; unfold PRd at h9; omega), (yfi_eq v55p.2.2.2.2 hzk.1 hzk.2 (by omega))⟩⟩
                · refine s_iload_n kx_215_68 rfl ?_
                  refine s_aload_n kx_215_69 rfl ?_
                  refine r_getK (k := 63) (f := 2) kx_215_70 kp_215_17 (tk_63 hT) kf_12_2 (fun _ => rfl) v20e ?_
                  refine s_icmp_ge (t := 83) kx_215_73 (by decide) (fun hc58 => ?_) (fun hc58 => ?_)
                  · refine s_aload_n kx_215_83 rfl ?_
                    refine s_bipush (v := 59) kx_215_84 (by decide) ?_
                    refine s_callV2 (k := 63) (s1 := 2) (s2 := 0) (as := [(0, 59)]) (rest := []) kx_215_86 kp_215_438 (Or.inl rfl) rfl (tk_63 hT) ki_183 kcl_183 rfl rfl (by decide) (f_183 (d := d) (c := 59) hT hI2 (LXp.fr hX fr2 rfl) hys0 hn) (kV (fun M60 hI60 fr60 v59p => ?_))
                    have hFm60 := hFm2.call fr60 rfl
                    have tr61 := rg_63_9 hI60
                    exact s_vret kx_215_89 kq_215 ⟨_, rfl, rfl, hI60, hFm60, ⟨v59p.1, by omega, by omega, by unfold PRd; first | omega | (have h9 := v59p.2.2.2.1; unfold PRd at h9; omega), (yfi_eq v59p.2.2.2.2 hzk.1 hzk.2 (by omega))⟩⟩
                  · refine s_aload_n kx_215_76 rfl ?_
                    refine s_bipush (v := 6) kx_215_77 (by decide) ?_
                    refine s_iload_n kx_215_79 rfl ?_
                    refine s_callV2 (k := 63) (s1 := 3) (s2 := 0) (as := [(0, x2_11), (0, 6)]) (rest := []) kx_215_80 kp_215_263 (Or.inl rfl) rfl (tk_63 hT) ki_176 kcl_176 rfl rfl (by decide) (f_176 (d := d + 2) (kind := 6) (place := x2_11) hT hI2 (by omega)) (kV (fun M63 hI63 fr63 v62p => ?_))
                    have hFm63 := hFm2.call fr63 rfl
                    have tr64 := (fr63 63 3 rfl)
                    have tr65 := (fr63 63 4 rfl)
                    have tr66 := (fr63 63 5 rfl)
                    have tr67 := (fr63 63 6 rfl)
                    have tr68 := rg_63_9 hI63
                    have hy669 : Yst M63 s n (60000 + owB s n (owE s n q)) q := yst_bl (k := 6) (x := owB s n (owE s n q)) (by omega) (by omega) (by decide) (by omega) (by omega)
                    refine s_aload_n kx_215_83 rfl ?_
                    refine s_bipush (v := 59) kx_215_84 (by decide) ?_
                    refine s_callV2 (k := 63) (s1 := 2) (s2 := 0) (as := [(0, 59)]) (rest := []) kx_215_86 kp_215_438 (Or.inl rfl) rfl (tk_63 hT) ki_183 kcl_183 rfl rfl (by decide) (f_183 (d := d) (c := 59) hT hI63 (LXp.fr (LXp.fr hX fr2 rfl) fr63 rfl) hy669 hn) (kV (fun M71 hI71 fr71 v70p => ?_))
                    have hFm71 := hFm63.call fr71 rfl
                    have tr72 := rg_63_9 hI71
                    exact s_vret kx_215_89 kq_215 ⟨_, rfl, rfl, hI71, hFm71, ⟨v70p.1, by omega, by omega, by unfold PRd; first | omega | (have h9 := v70p.2.2.2.1; unfold PRd at h9; omega), (yfi_eq v70p.2.2.2.2 hzk.1 hzk.2 (by omega))⟩⟩
            · refine r_iinc kx_215_47 rfl km_215_2 (by decide) ⟨by omega, by omega⟩ rfl ?_
              refine s_goto (t := 17) kx_215_50 (by decide) ?_
              exact cP.wk (lS1 rfl (lS1 rfl (lS1 rfl lS0))) (ih19 (x2_11 + 1) (by omega) (by omega) (by omega) (owB_step i17 (by omega) (by omega)).1 (by omega))
    exact cP.wk (lS1 rfl (lS1 rfl (lS1 rfl lS0))) (key12 _ v10 (by omega) (by omega) (by omega) (by rw [show v10 = owE s n q by omega]) (Nat.lt_succ_self _))
  · have hk73 : M2 63 9 = v8 := v8e
    exact s_vret kx_215_11 kq_215 ⟨_, rfl, rfl, hI2, hFm2, ⟨(LXp.fr hX fr2 rfl), by omega, by omega, by unfold PRd; first | omega | (have h9 := v70p.2.2.2.1; unfold PRd at h9; omega), (yst_is (yfi_lx (Yst.pos v1p.1 (by omega)).1) v1p.1 (Yst.pos v1p.1 (by omega)).1)⟩⟩
