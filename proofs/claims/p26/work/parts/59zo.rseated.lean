theorem g_222 {xs : Nat → Int} {Ln d : Nat} {T : List cK} {M : cM} (hT : TT T) (hI : Rng M) {set k : Int} : cC k_P xs Ln (d + 0) 222 [(0, set), (0, k)] (T, M) (qF T M 0 (fun v => (v = 1 ∧ tbA (tbS set k) 1 = 1) ∨ (v = 0 ∧ tbA (tbS set k) 1 = 0))) := by
  show cP k_P xs Ln (d + 0) 222 0 [(0, (0, set)), (1, (0, k))] [] (T, M) _
  refine s_iload_n kx_222_0 rfl ?_
  refine s_iload_n kx_222_1 rfl ?_
  refine s_ishr (z := (tbS set k)) kx_222_2 rfl ?_
  refine s_iconst (v := 1) kx_222_3 (by decide) ?_
  refine s_iand (z := (tbA (tbS set k) 1)) kx_222_4 rfl ?_
  have hb3 := tbA_1 (tbS set k)
  refine s_iconst (v := 1) kx_222_5 (by decide) ?_
  refine s_icmp_ne (t := 13) kx_222_6 (by decide) (fun hc4 => ?_) (fun hc4 => ?_)
  · refine s_iconst (v := 0) kx_222_13 (by decide) ?_
    exact s_iret kx_222_14 (Or.inr ⟨kq_222, by omega⟩) ⟨_, rfl, rfl, (by omega)⟩
  · refine s_iconst (v := 1) kx_222_9 (by decide) ?_
    refine s_goto (t := 14) kx_222_10 (by decide) ?_
    exact s_iret kx_222_14 (Or.inr ⟨kq_222, by omega⟩) ⟨_, rfl, rfl, (by omega)⟩
theorem g_223 {xs : Nat → Int} {Ln d : Nat} {T : List cK} {M : cM} (hT : TT T) (hI : Rng M) {set : Int} (p0 : 0 ≤ set ∧ set ≤ 255) : cC k_P xs Ln (d + 0) 223 [(0, set)] (T, M) (qF T M 0 (fun v => v = pPop set)) := by
  show cP k_P xs Ln (d + 0) 223 0 [(0, (0, set))] [] (T, M) _
  refine s_iconst (v := 0) kx_223_0 (by decide) ?_
  refine s_istore_n kx_223_1 km_223_1 rfl ?_
  refine s_iload_n kx_223_2 rfl ?_
  refine s_istore_n kx_223_3 km_223_2 rfl ?_
  have key3 : ∀ n4 : Nat, ∀ (x1_1 x2_2 : Int), (0 ≤ x1_1) → (x1_1 ≤ 300) → (0 ≤ x2_2) → (x2_2 ≤ 255) → (x1_1 + pPop x2_2 = pPop set) → (x1_1 + x2_2 ≤ set) → (x2_2).toNat < n4 → cP k_P xs Ln (d + 0) 223 4 [(1, (0, x1_1)), (2, (0, x2_2))] [] (T, M) (qF T M 0 (fun v => v = pPop set)) := by
    intro n4
    induction n4 with
    | zero => intro x1_1 x2_2 i5 i6 i7 i8 i9 i10 hm11; exact absurd hm11 (Nat.not_lt_zero _)
    | succ n4 ih12 =>
      intro x1_1 x2_2 i5 i6 i7 i8 i9 i10 hm11
      refine s_iload_n kx_223_4 rfl ?_
      refine s_if_eq (t := 20) kx_223_5 (by decide) (fun hc13 => ?_) (fun hc13 => ?_)
      · refine s_iload_n kx_223_20 rfl ?_
        exact s_iret kx_223_21 (Or.inl kq_223) ⟨_, rfl, rfl, (by have h9 := i9; rw [show x2_2 = 0 by omega] at h9; have h8 : pPop 0 = 0 := rfl; omega)⟩
      · refine r_iinc kx_223_8 rfl km_223_1 (by decide) ⟨by omega, by omega⟩ rfl ?_
        refine s_iload_n kx_223_11 rfl ?_
        refine s_iload_n kx_223_12 rfl ?_
        refine s_iconst (v := 1) kx_223_13 (by decide) ?_
        refine r_sub kx_223_14 ⟨by omega, by omega⟩ ?_
        have hbs := bt_S (x := x2_2) (by omega)
        refine s_iand (z := (tbA x2_2 (x2_2 - 1))) kx_223_15 rfl ?_
        refine s_istore_n kx_223_16 km_223_2 rfl ?_
        refine s_goto (t := 4) kx_223_17 (by decide) ?_
        exact cP.wk (lS1 rfl (lS1 rfl lS0)) (ih12 (x1_1 + 1) (tbA x2_2 (x2_2 - 1)) (by omega) (by omega) (by omega) (by omega) (by omega) (by omega) (by omega))
  have hz9 : (0 : Int) + pPop set = pPop set := Int.zero_add _
  exact cP.wk (lS1 rfl (lS1 rfl lS0)) (key3 _ 0 set (by omega) (by omega) (by omega) (by omega) (by omega) (by omega) (Nat.lt_succ_self _))
theorem g_279 {xs : Nat → Int} {Ln d : Nat} {T : List cK} {M : cM} (hT : TT T) (hI : Rng M) {r set : Int} {D S : cM} (hR : RR D S M) (p0 : 0 ≤ r ∧ r ≤ 7) (p1 : r < D 0 0) : cC k_P xs Ln (d + 3) 279 [rf 63, (0, r), (0, set)] (T, M) (qF T M 0 (fun v => (v = 1 ∧ pCs D S r set = 1) ∨ (v = 0 ∧ pCs D S r set = 0))) := by
  show cP k_P xs Ln (d + 3) 279 0 [(0, rf 63), (1, (0, r)), (2, (0, set))] [] (T, M) _
  have hD := hR.2.1
  have hDr := hD.rg
  have hSW := hR.2.2.2.2
  refine s_iconst (v := 0) kx_279_0 (by decide) ?_
  refine s_istore_n kx_279_1 km_279_3 rfl ?_
  refine s_iconst (v := 0) kx_279_2 (by decide) ?_
  refine s_istore kx_279_3 km_279_4 rfl ?_
  have key3 : ∀ n4 : Nat, ∀ (x3_1 x4_2 : Int), (0 ≤ x3_1) → (x3_1 ≤ 72) → (0 ≤ x4_2) → (x4_2 ≤ 8) → (x3_1 ≤ 9 * x4_2) → (x4_2 ≤ D 0 1) → (x3_1 = pWs D S r set (x4_2).toNat) → (pAll (cOk D S r set) (x4_2).toNat = 1) → (2147483647 - x4_2).toNat < n4 → cP k_P xs Ln (d + 3) 279 5 [(0, rf 63), (1, (0, r)), (2, (0, set)), (3, (0, x3_1)), (4, (0, x4_2))] [] (T, M) (qF T M 0 (fun v => (v = 1 ∧ pCs D S r set = 1) ∨ (v = 0 ∧ pCs D S r set = 0))) := by
    intro n4
    induction n4 with
    | zero => intro x3_1 x4_2 i5 i6 i7 i8 i9 i10 i11 i12 hm13; exact absurd hm13 (Nat.not_lt_zero _)
    | succ n4 ih14 =>
      intro x3_1 x4_2 i5 i6 i7 i8 i9 i10 i11 i12 hm13
      refine s_iload kx_279_5 rfl ?_
      refine s_aload_n kx_279_7 rfl ?_
      refine r_getR (k := 63) (f := 19) (k2 := 69) kx_279_8 kp_279_69 (tk_63 hT) kf_12_19 (by decide) (rq_63_19 hI) ?_
      refine s_aload_n kx_279_11 rfl ?_
      refine r_getI (k := 63) (f := 14) kx_279_12 kp_279_54 (tk_63 hT) kf_12_14 (fun _ => rfl) (rg_63_14 hI) (fun v15 v15e v15a v15b => ?_)
      refine r_ald (k := 69) kx_279_15 (tk_69 hT) ⟨by omega, by omega⟩ (rg_69 hI) (fun v16 v16e v16a v16b => ?_)
      have v16d : D 0 1 = v16 := by have h9 := (hR).1.2.1; rw [v15e] at h9; exact h9.symm.trans v16e
      refine s_icmp_ge (t := 127) kx_279_16 (by decide) (fun hc17 => ?_) (fun hc17 => ?_)
      · have hal : pAll (cOk D S r set) (D 0 1).toNat = 1 := by rw [show D 0 1 = x4_2 by omega]; exact i12
        have hld : x3_1 = pWs D S r set (D 0 1).toNat := by rw [show D 0 1 = x4_2 by omega]; exact i11
        refine s_iload_n kx_279_127 rfl ?_
        refine s_aload_n kx_279_128 rfl ?_
        refine r_getR (k := 63) (f := 17) (k2 := 67) kx_279_129 kp_279_63 (tk_63 hT) kf_12_17 (by decide) (rq_63_17 hI) ?_
        refine s_bipush (v := 8) kx_279_132 (by decide) ?_
        refine s_aload_n kx_279_134 rfl ?_
        refine r_getK (k := 63) (f := 14) kx_279_135 kp_279_54 (tk_63 hT) kf_12_14 (fun _ => rfl) v15e ?_
        refine r_mul kx_279_138 ⟨by omega, by omega⟩ ?_
        refine s_iload_n kx_279_139 rfl ?_
        refine r_add kx_279_140 ⟨by omega, by omega⟩ ?_
        refine r_aldU (k := 67) kx_279_141 (tk_67 hT) ⟨by omega, by omega⟩ (fun v18 v18e => ?_)
        have hb19 := v15e
        have v18d := (RR.fl hR (p := r) ⟨by omega, by omega⟩ (by omega)).symm.trans v18e
        refine s_icmp_gt (t := 149) kx_279_142 (by decide) (fun hc20 => ?_) (fun hc20 => ?_)
        · refine s_iconst (v := 0) kx_279_149 (by decide) ?_
          exact s_iret kx_279_150 (Or.inr ⟨kq_279, by omega⟩) ⟨_, rfl, rfl, (Or.inr ⟨rfl, by unfold pCs; exact if_neg (by omega)⟩)⟩
        · refine s_iconst (v := 1) kx_279_145 (by decide) ?_
          refine s_goto (t := 150) kx_279_146 (by decide) ?_
          exact s_iret kx_279_150 (Or.inr ⟨kq_279, by omega⟩) ⟨_, rfl, rfl, (Or.inl ⟨rfl, by unfold pCs; exact if_pos (by omega)⟩)⟩
      · refine s_iload_n kx_279_19 rfl ?_
        refine s_iload kx_279_20 rfl ?_
        refine s_callS2 (s1 := 2) (s2 := 0) (as := [(0, x4_2), (0, set)]) (rest := []) kx_279_22 kp_279_585 rfl kcl_222 rfl rfl (by decide) (g_222 (d := d + 2) (set := set) (k := x4_2) hT hI) (kF (fun v21 v21p => ?_))
        refine s_istore kx_279_25 km_279_5 rfl ?_
        refine s_iload_n kx_279_27 rfl ?_
        refine s_iload kx_279_28 rfl ?_
        refine s_if_ne (t := 44) kx_279_30 (by decide) (fun hc22 => ?_) (fun hc22 => ?_)
        · replace v21p := v21p.resolve_right (by omega)
          refine s_aload_n kx_279_44 rfl ?_
          refine s_iload kx_279_45 rfl ?_
          refine s_callV2 (k := 63) (s1 := 2) (s2 := 1) (as := [(0, x4_2)]) (rest := [(0, x3_1)]) kx_279_47 kp_279_484 (Or.inl rfl) rfl (tk_63 hT) ki_237 kcl_237 rfl rfl (by decide) (g_237 (d := d + 2) (c := x4_2) hT hI hR (by omega) (by omega)) (kF (fun v23 v23p => ?_))
          refine s_goto (t := 54) kx_279_50 (by decide) ?_
          refine r_add kx_279_54 ⟨by omega, by omega⟩ ?_
          refine s_istore_n kx_279_55 km_279_3 rfl ?_
          refine s_iload kx_279_56 rfl ?_
          refine s_if_ne (t := 64) kx_279_58 (by decide) (fun hc24 => ?_) (fun hc24 => absurd hc24 (by omega))
          refine s_aload_n kx_279_64 rfl ?_
          refine r_getR (k := 63) (f := 50) (k2 := 94) kx_279_65 kp_279_165 (tk_63 hT) kf_12_50 (by decide) (rq_63_50 hI) ?_
          refine s_iload kx_279_68 rfl ?_
          refine r_aldU (k := 94) kx_279_70 (tk_94 hT) ⟨by omega, by omega⟩ (fun v25 v25e => ?_)
          have v25d := (RR.br hR (p := x4_2) ⟨by omega, by omega⟩ (by omega)).symm.trans v25e
          have v25w := (hR).2.2.2.2.at (p := x4_2) ⟨by omega, by omega⟩
          refine s_iconst (v := 1) kx_279_71 (by decide) ?_
          refine s_icmp_eq (t := 119) kx_279_72 (by decide) (fun hc26 => ?_) (fun hc26 => ?_)
          · refine s_iconst (v := 0) kx_279_119 (by decide) ?_
            exact s_iret kx_279_120 (Or.inr ⟨kq_279, by omega⟩) ⟨_, rfl, rfl, (Or.inr ⟨rfl, by have h9 := pAll_0 (c := cOk D S r set) (x := x4_2) (by omega) (by unfold cOk; rw [if_pos (by omega), if_neg (by omega)]; decide) (D 0 1).toNat (by omega); unfold pCs; exact if_neg (by omega)⟩)⟩
          · refine s_aload_n kx_279_75 rfl ?_
            refine r_getR (k := 63) (f := 49) (k2 := 93) kx_279_76 kp_279_162 (tk_63 hT) kf_12_49 (by decide) (rq_63_49 hI) ?_
            refine s_iload kx_279_79 rfl ?_
            refine r_ald (k := 93) kx_279_81 (tk_93 hT) ⟨by omega, by omega⟩ (rg_93 hI (by omega)) (fun v27 v27e v27a v27b => ?_)
            have v27d := (RR.ch hR (p := x4_2) ⟨by omega, by omega⟩ (by omega)).symm.trans v27e
            have v27w := (hR).2.2.2.2.at (p := x4_2) ⟨by omega, by omega⟩
            refine s_iload_n kx_279_82 rfl ?_
            refine s_icmp_eq (t := 96) kx_279_83 (by decide) (fun hc28 => ?_) (fun hc28 => ?_)
            · refine s_aload_n kx_279_96 rfl ?_
              refine s_iload kx_279_97 rfl ?_
              refine s_callV2 (k := 63) (s1 := 2) (s2 := 0) (as := [(0, x4_2)]) (rest := []) kx_279_99 kp_279_487 (Or.inl rfl) rfl (tk_63 hT) ki_238 kcl_238 rfl rfl (by decide) (g_238 (d := d + 2) (p := x4_2) hT hI hR (by omega) (by omega)) (kF (fun v29 v29p => ?_))
              refine s_iconst (v := (-1)) kx_279_102 (by decide) ?_
              refine s_icmp_eq (t := 121) kx_279_103 (by decide) (fun hc30 => ?_) (fun hc30 => ?_)
              · refine r_iinc kx_279_121 rfl km_279_4 (by decide) ⟨by omega, by omega⟩ rfl ?_
                refine s_goto (t := 5) kx_279_124 (by decide) ?_
                exact cP.wk (lS1 rfl (lS1 rfl (lS1 rfl (lS1 rfl (lS1 rfl lS0))))) (ih14 (x3_1 + v23) (x4_2 + 1) (by omega) (by omega) (by omega) (by omega) (by omega) (by omega) (pWs_S i11 (by omega) (Or.inl ⟨by omega, by omega⟩)) (pAll_S i12 (by omega) (by unfold cOk; first | exact if_neg (by omega) | (rw [if_pos (by omega)]; exact if_pos (by omega)))) (by omega))
              · refine s_iload_n kx_279_106 rfl ?_
                refine s_aload_n kx_279_107 rfl ?_
                refine s_iload kx_279_108 rfl ?_
                refine s_callV2 (k := 63) (s1 := 2) (s2 := 1) (as := [(0, x4_2)]) (rest := [(0, set)]) kx_279_110 kp_279_487 (Or.inl rfl) rfl (tk_63 hT) ki_238 kcl_238 rfl rfl (by decide) (g_238 (d := d + 2) (p := x4_2) hT hI hR (by omega) (by omega)) (kF (fun v31 v31p => ?_))
                refine s_callS2 (s1 := 2) (s2 := 0) (as := [(0, v31), (0, set)]) (rest := []) kx_279_113 kp_279_585 rfl kcl_222 rfl rfl (by decide) (g_222 (d := d + 2) (set := set) (k := v31) hT hI) (kF (fun v32 v32p => ?_))
                refine s_if_ne (t := 121) kx_279_116 (by decide) (fun hc33 => ?_) (fun hc33 => ?_)
                · replace v32p := v32p.resolve_right (by omega)
                  refine r_iinc kx_279_121 rfl km_279_4 (by decide) ⟨by omega, by omega⟩ rfl ?_
                  refine s_goto (t := 5) kx_279_124 (by decide) ?_
                  exact cP.wk (lS1 rfl (lS1 rfl (lS1 rfl (lS1 rfl (lS1 rfl lS0))))) (ih14 (x3_1 + v23) (x4_2 + 1) (by omega) (by omega) (by omega) (by omega) (by omega) (by omega) (pWs_S i11 (by omega) (Or.inl ⟨by omega, by omega⟩)) (pAll_S i12 (by omega) (by unfold cOk; rw [← v31p.2.2.1]; first | exact if_neg (by omega) | (rw [if_pos (by omega)]; exact if_pos (by omega)))) (by omega))
                · replace v32p := v32p.resolve_left (by omega)
                  refine s_iconst (v := 0) kx_279_119 (by decide) ?_
                  exact s_iret kx_279_120 (Or.inr ⟨kq_279, by omega⟩) ⟨_, rfl, rfl, (Or.inr ⟨rfl, by have h9 := pAll_0 (c := cOk D S r set) (x := x4_2) (by omega) (by unfold cOk; rw [← v31p.2.2.1]; rw [if_pos (by omega), if_neg (by omega)]; decide) (D 0 1).toNat (by omega); unfold pCs; exact if_neg (by omega)⟩)⟩
            · refine s_aload_n kx_279_86 rfl ?_
              refine s_iload kx_279_87 rfl ?_
              refine s_iload_n kx_279_89 rfl ?_
              refine s_callV2 (k := 63) (s1 := 3) (s2 := 0) (as := [(0, r), (0, x4_2)]) (rest := []) kx_279_90 kp_279_493 (Or.inl rfl) rfl (tk_63 hT) ki_241 kcl_241 rfl rfl (by decide) (g_241 (d := d) (c := x4_2) (r := r) hT hI hR (by omega) (by omega) (by omega) (by omega)) (kF (fun v34 v34p => ?_))
              refine s_if_eq (t := 119) kx_279_93 (by decide) (fun hc35 => ?_) (fun hc35 => ?_)
              · replace v34p := v34p.resolve_left (by omega)
                refine s_iconst (v := 0) kx_279_119 (by decide) ?_
                exact s_iret kx_279_120 (Or.inr ⟨kq_279, by omega⟩) ⟨_, rfl, rfl, (Or.inr ⟨rfl, by have h9 := pAll_0 (c := cOk D S r set) (x := x4_2) (by omega) (by unfold cOk; rw [if_pos (by omega), if_neg (by omega)]; decide) (D 0 1).toNat (by omega); unfold pCs; exact if_neg (by omega)⟩)⟩
              · replace v34p := v34p.resolve_right (by omega)
                refine s_aload_n kx_279_96 rfl ?_
                refine s_iload kx_279_97 rfl ?_
                refine s_callV2 (k := 63) (s1 := 2) (s2 := 0) (as := [(0, x4_2)]) (rest := []) kx_279_99 kp_279_487 (Or.inl rfl) rfl (tk_63 hT) ki_238 kcl_238 rfl rfl (by decide) (g_238 (d := d + 2) (p := x4_2) hT hI hR (by omega) (by omega)) (kF (fun v36 v36p => ?_))
                refine s_iconst (v := (-1)) kx_279_102 (by decide) ?_
                refine s_icmp_eq (t := 121) kx_279_103 (by decide) (fun hc37 => ?_) (fun hc37 => ?_)
                · refine r_iinc kx_279_121 rfl km_279_4 (by decide) ⟨by omega, by omega⟩ rfl ?_
                  refine s_goto (t := 5) kx_279_124 (by decide) ?_
                  exact cP.wk (lS1 rfl (lS1 rfl (lS1 rfl (lS1 rfl (lS1 rfl lS0))))) (ih14 (x3_1 + v23) (x4_2 + 1) (by omega) (by omega) (by omega) (by omega) (by omega) (by omega) (pWs_S i11 (by omega) (Or.inl ⟨by omega, by omega⟩)) (pAll_S i12 (by omega) (by unfold cOk; first | exact if_neg (by omega) | (rw [if_pos (by omega)]; exact if_pos (by omega)))) (by omega))
                · refine s_iload_n kx_279_106 rfl ?_
                  refine s_aload_n kx_279_107 rfl ?_
                  refine s_iload kx_279_108 rfl ?_
                  refine s_callV2 (k := 63) (s1 := 2) (s2 := 1) (as := [(0, x4_2)]) (rest := [(0, set)]) kx_279_110 kp_279_487 (Or.inl rfl) rfl (tk_63 hT) ki_238 kcl_238 rfl rfl (by decide) (g_238 (d := d + 2) (p := x4_2) hT hI hR (by omega) (by omega)) (kF (fun v38 v38p => ?_))
                  refine s_callS2 (s1 := 2) (s2 := 0) (as := [(0, v38), (0, set)]) (rest := []) kx_279_113 kp_279_585 rfl kcl_222 rfl rfl (by decide) (g_222 (d := d + 2) (set := set) (k := v38) hT hI) (kF (fun v39 v39p => ?_))
                  refine s_if_ne (t := 121) kx_279_116 (by decide) (fun hc40 => ?_) (fun hc40 => ?_)
                  · replace v39p := v39p.resolve_right (by omega)
                    refine r_iinc kx_279_121 rfl km_279_4 (by decide) ⟨by omega, by omega⟩ rfl ?_
                    refine s_goto (t := 5) kx_279_124 (by decide) ?_
                    exact cP.wk (lS1 rfl (lS1 rfl (lS1 rfl (lS1 rfl (lS1 rfl lS0))))) (ih14 (x3_1 + v23) (x4_2 + 1) (by omega) (by omega) (by omega) (by omega) (by omega) (by omega) (pWs_S i11 (by omega) (Or.inl ⟨by omega, by omega⟩)) (pAll_S i12 (by omega) (by unfold cOk; rw [← v38p.2.2.1]; first | exact if_neg (by omega) | (rw [if_pos (by omega)]; exact if_pos (by omega)))) (by omega))
                  · replace v39p := v39p.resolve_left (by omega)
                    refine s_iconst (v := 0) kx_279_119 (by decide) ?_
                    exact s_iret kx_279_120 (Or.inr ⟨kq_279, by omega⟩) ⟨_, rfl, rfl, (Or.inr ⟨rfl, by have h9 := pAll_0 (c := cOk D S r set) (x := x4_2) (by omega) (by unfold cOk; rw [← v38p.2.2.1]; rw [if_pos (by omega), if_neg (by omega)]; decide) (D 0 1).toNat (by omega); unfold pCs; exact if_neg (by omega)⟩)⟩
        · replace v21p := v21p.resolve_left (by omega)
          refine s_aload_n kx_279_33 rfl ?_
          refine r_getR (k := 63) (f := 49) (k2 := 93) kx_279_34 kp_279_162 (tk_63 hT) kf_12_49 (by decide) (rq_63_49 hI) ?_
          refine s_iload kx_279_37 rfl ?_
          refine r_ald (k := 93) kx_279_39 (tk_93 hT) ⟨by omega, by omega⟩ (rg_93 hI (by omega)) (fun v41 v41e v41a v41b => ?_)
          have v41d := (RR.ch hR (p := x4_2) ⟨by omega, by omega⟩ (by omega)).symm.trans v41e
          have v41w := (hR).2.2.2.2.at (p := x4_2) ⟨by omega, by omega⟩
          refine s_iload_n kx_279_40 rfl ?_
          refine s_icmp_ne (t := 53) kx_279_41 (by decide) (fun hc42 => ?_) (fun hc42 => ?_)
          · refine s_iconst (v := 0) kx_279_53 (by decide) ?_
            refine r_add kx_279_54 ⟨by omega, by omega⟩ ?_
            refine s_istore_n kx_279_55 km_279_3 rfl ?_
            refine s_iload kx_279_56 rfl ?_
            refine s_if_ne (t := 64) kx_279_58 (by decide) (fun hc43 => absurd hc43 (by omega)) (fun hc43 => ?_)
            refine s_goto (t := 121) kx_279_61 (by decide) ?_
            refine r_iinc kx_279_121 rfl km_279_4 (by decide) ⟨by omega, by omega⟩ rfl ?_
            refine s_goto (t := 5) kx_279_124 (by decide) ?_
            exact cP.wk (lS1 rfl (lS1 rfl (lS1 rfl (lS1 rfl (lS1 rfl lS0))))) (ih14 (x3_1 + 0) (x4_2 + 1) (by omega) (by omega) (by omega) (by omega) (by omega) (by omega) (pWs_S i11 (by omega) (Or.inr ⟨by omega, rfl⟩)) (pAll_S i12 (by omega) (by unfold cOk; first | exact if_neg (by omega) | (rw [if_pos (by omega)]; exact if_pos (by omega)))) (by omega))
          · refine s_aload_n kx_279_44 rfl ?_
            refine s_iload kx_279_45 rfl ?_
            refine s_callV2 (k := 63) (s1 := 2) (s2 := 1) (as := [(0, x4_2)]) (rest := [(0, x3_1)]) kx_279_47 kp_279_484 (Or.inl rfl) rfl (tk_63 hT) ki_237 kcl_237 rfl rfl (by decide) (g_237 (d := d + 2) (c := x4_2) hT hI hR (by omega) (by omega)) (kF (fun v44 v44p => ?_))
            refine s_goto (t := 54) kx_279_50 (by decide) ?_
            refine r_add kx_279_54 ⟨by omega, by omega⟩ ?_
            refine s_istore_n kx_279_55 km_279_3 rfl ?_
            refine s_iload kx_279_56 rfl ?_
            refine s_if_ne (t := 64) kx_279_58 (by decide) (fun hc45 => absurd hc45 (by omega)) (fun hc45 => ?_)
            refine s_goto (t := 121) kx_279_61 (by decide) ?_
            refine r_iinc kx_279_121 rfl km_279_4 (by decide) ⟨by omega, by omega⟩ rfl ?_
            refine s_goto (t := 5) kx_279_124 (by decide) ?_
            exact cP.wk (lS1 rfl (lS1 rfl (lS1 rfl (lS1 rfl (lS1 rfl lS0))))) (ih14 (x3_1 + v44) (x4_2 + 1) (by omega) (by omega) (by omega) (by omega) (by omega) (by omega) (pWs_S i11 (by omega) (Or.inl ⟨by omega, by omega⟩)) (pAll_S i12 (by omega) (by unfold cOk; first | exact if_neg (by omega) | (rw [if_pos (by omega)]; exact if_pos (by omega)))) (by omega))
  exact cP.wk (lS1 rfl (lS1 rfl (lS1 rfl (lS1 rfl (lS1 rfl lS0))))) (key3 _ 0 0 (by omega) (by omega) (by omega) (by omega) (by omega) (by omega) rfl rfl (Nat.lt_succ_self _))
theorem g_280 {xs : Nat → Int} {Ln d : Nat} {T : List cK} {M : cM} (hT : TT T) (hI : Rng M) {r people : Int} {D S : cM} (hR : RR D S M) : cC k_P xs Ln (d + 4) 280 [rf 63, (0, r), (0, people)] (T, M) (qF T M 0 (fun v => v = pSe D S r people)) := by
  show cP k_P xs Ln (d + 4) 280 0 [(0, rf 63), (1, (0, r)), (2, (0, people))] [] (T, M) _
  have hD := hR.2.1
  have hDr := hD.rg
  have hSW := hR.2.2.2.2
  refine s_aload_n kx_280_0 rfl ?_
  refine s_iload_n kx_280_1 rfl ?_
  refine s_callV2 (k := 63) (s1 := 2) (s2 := 0) (as := [(0, r)]) (rest := []) kx_280_2 kp_280_508 (Or.inl rfl) rfl (tk_63 hT) ki_220 kcl_220 rfl rfl (by decide) (g_220 (d := d + 3) (r := r) hT hI hR) (kF (fun v1 v1p => ?_))
  refine s_if_eq (t := 29) kx_280_5 (by decide) (fun hc2 => ?_) (fun hc2 => ?_)
  · replace v1p := v1p.resolve_left (by omega)
    refine s_iconst (v := (-1)) kx_280_29 (by decide) ?_
    exact s_iret kx_280_30 (Or.inl kq_280) ⟨_, rfl, rfl, (by unfold pSe; rw [if_neg (by omega)])⟩
  · replace v1p := v1p.resolve_right (by omega)
    refine s_iload_n kx_280_8 rfl ?_
    refine s_iconst (v := 0) kx_280_9 (by decide) ?_
    refine s_iconst (v := 1) kx_280_10 (by decide) ?_
    refine s_aload_n kx_280_11 rfl ?_
    refine r_getR (k := 63) (f := 19) (k2 := 69) kx_280_12 kp_280_69 (tk_63 hT) kf_12_19 (by decide) (rq_63_19 hI) ?_
    refine s_aload_n kx_280_15 rfl ?_
    refine r_getI (k := 63) (f := 14) kx_280_16 kp_280_54 (tk_63 hT) kf_12_14 (fun _ => rfl) (rg_63_14 hI) (fun v3 v3e v3a v3b => ?_)
    refine r_ald (k := 69) kx_280_19 (tk_69 hT) ⟨by omega, by omega⟩ (rg_69 hI) (fun v4 v4e v4a v4b => ?_)
    have v4d : D 0 1 = v4 := by have h9 := (hR).1.2.1; rw [v3e] at h9; exact h9.symm.trans v4e
    refine s_ishl (z := (tbL 1 v4)) kx_280_20 rfl ?_
    have hpw6 := tbL_pw (n := v4) (by omega)
    have hpw6d : tbL 1 (D 0 1) = tbL 1 v4 := by rw [v4d]
    refine s_iconst (v := 1) kx_280_21 (by decide) ?_
    refine r_sub kx_280_22 ⟨by omega, by omega⟩ ?_
    refine s_callS2 (s1 := 3) (s2 := 0) (as := [(0, ((tbL 1 v4) - 1)), (0, 0), (0, people)]) (rest := []) kx_280_23 kp_280_345 rfl kcl_172 rfl rfl (by decide) (m_172 (d := d + 3) (v_ := people) (least := 0) (most := ((tbL 1 v4) - 1)) hT hI) (kF (fun v7 v7p => ?_))
    refine s_if_ne (t := 31) kx_280_26 (by decide) (fun hc8 => ?_) (fun hc8 => ?_)
    · replace v7p := v7p.resolve_right (by omega)
      refine s_iconst (v := 0) kx_280_31 (by decide) ?_
      refine s_istore_n kx_280_32 km_280_3 rfl ?_
      refine s_iconst (v := 1) kx_280_33 (by decide) ?_
      refine s_istore kx_280_34 km_280_4 rfl ?_
      have key11 : ∀ n12 : Nat, ∀ (x3_9 x4_10 : Int), (0 ≤ x3_9) → (x3_9 ≤ 255) → (1 ≤ x4_10) → (x4_10 ≤ 256) → (x4_10 ≤ tbL 1 (D 0 1)) → (x3_9 = pStt D S r people (x4_10 - 1).toNat) → (2147483647 - x4_10).toNat < n12 → cP k_P xs Ln (d + 4) 280 36 [(0, rf 63), (1, (0, r)), (2, (0, people)), (3, (0, x3_9)), (4, (0, x4_10))] [] (T, M) (qF T M 0 (fun v => v = pSe D S r people)) := by
        intro n12
        induction n12 with
        | zero => intro x3_9 x4_10 i13 i14 i15 i16 i17 i18 hm19; exact absurd hm19 (Nat.not_lt_zero _)
        | succ n12 ih20 =>
          intro x3_9 x4_10 i13 i14 i15 i16 i17 i18 hm19
          refine s_iload kx_280_36 rfl ?_
          refine s_iconst (v := 1) kx_280_38 (by decide) ?_
          refine s_aload_n kx_280_39 rfl ?_
          refine r_getR (k := 63) (f := 19) (k2 := 69) kx_280_40 kp_280_69 (tk_63 hT) kf_12_19 (by decide) (rq_63_19 hI) ?_
          refine s_aload_n kx_280_43 rfl ?_
          refine r_getK (k := 63) (f := 14) kx_280_44 kp_280_54 (tk_63 hT) kf_12_14 (fun _ => rfl) v3e ?_
          refine r_aldK (k := 69) kx_280_47 (tk_69 hT) ⟨by omega, by omega⟩ v4e ?_
          refine s_ishl (z := (tbL 1 v4)) kx_280_48 rfl ?_
          have hpw22 := tbL_pw (n := v4) (by omega)
          have hpw22d : tbL 1 (D 0 1) = tbL 1 v4 := by rw [v4d]
          refine s_icmp_ge (t := 92) kx_280_49 (by decide) (fun hc23 => ?_) (fun hc23 => ?_)
          · refine s_iload_n kx_280_92 rfl ?_
            exact s_iret kx_280_93 (Or.inl kq_280) ⟨_, rfl, rfl, (by unfold pSe; rw [if_pos (by omega), ← pStt_hi (by omega) (x4_10 - 1).toNat (by omega) (by omega)]; exact i18)⟩
          · refine s_iload kx_280_52 rfl ?_
            refine s_iload_n kx_280_54 rfl ?_
            refine s_iconst (v := (-1)) kx_280_55 (by decide) ?_
            refine s_ixor (z := (tbX people (-1))) kx_280_56 rfl ?_
            refine s_iand (z := (tbA x4_10 (tbX people (-1)))) kx_280_57 rfl ?_
            refine s_if_ne (t := 86) kx_280_58 (by decide) (fun hc26 => ?_) (fun hc26 => ?_)
            · refine r_iinc kx_280_86 rfl km_280_4 (by decide) ⟨by omega, by omega⟩ rfl ?_
              refine s_goto (t := 36) kx_280_89 (by decide) ?_
              exact cP.wk (lS1 rfl (lS1 rfl (lS1 rfl (lS1 rfl (lS1 rfl lS0))))) (ih20 x3_9 (x4_10 + 1) (by omega) (by omega) (by omega) (by omega) (by omega) (pStt_S i18 (by omega) (Or.inr (by unfold pSub; omega))) (by omega))
            · refine s_iload kx_280_61 rfl ?_
              refine s_callS2 (s1 := 1) (s2 := 0) (as := [(0, x4_10)]) (rest := []) kx_280_63 kp_280_594 rfl kcl_223 rfl rfl (by decide) (g_223 (d := d + 3) (set := x4_10) hT hI (by omega)) (kF (fun v27 v27p => ?_))
              refine s_iload_n kx_280_66 rfl ?_
              refine s_callS2 (s1 := 1) (s2 := 1) (as := [(0, x3_9)]) (rest := [(0, v27)]) kx_280_67 kp_280_594 rfl kcl_223 rfl rfl (by decide) (g_223 (d := d + 3) (set := x3_9) hT hI (by omega)) (kF (fun v28 v28p => ?_))
              refine s_icmp_le (t := 86) kx_280_70 (by decide) (fun hc29 => ?_) (fun hc29 => ?_)
              · refine r_iinc kx_280_86 rfl km_280_4 (by decide) ⟨by omega, by omega⟩ rfl ?_
                refine s_goto (t := 36) kx_280_89 (by decide) ?_
                exact cP.wk (lS1 rfl (lS1 rfl (lS1 rfl (lS1 rfl (lS1 rfl lS0))))) (ih20 x3_9 (x4_10 + 1) (by omega) (by omega) (by omega) (by omega) (by omega) (pStt_S i18 (by omega) (Or.inr (by unfold pSub; omega))) (by omega))
              · refine s_aload_n kx_280_73 rfl ?_
                refine s_iload_n kx_280_74 rfl ?_
                refine s_iload kx_280_75 rfl ?_
                refine s_callV2 (k := 63) (s1 := 3) (s2 := 0) (as := [(0, x4_10), (0, r)]) (rest := []) kx_280_77 kp_280_597 (Or.inl rfl) rfl (tk_63 hT) ki_279 kcl_279 rfl rfl (by decide) (g_279 (d := d) (r := r) (set := x4_10) hT hI hR (by omega) (by omega)) (kF (fun v30 v30p => ?_))
                refine s_if_eq (t := 86) kx_280_80 (by decide) (fun hc31 => ?_) (fun hc31 => ?_)
                · replace v30p := v30p.resolve_left (by omega)
                  refine r_iinc kx_280_86 rfl km_280_4 (by decide) ⟨by omega, by omega⟩ rfl ?_
                  refine s_goto (t := 36) kx_280_89 (by decide) ?_
                  exact cP.wk (lS1 rfl (lS1 rfl (lS1 rfl (lS1 rfl (lS1 rfl lS0))))) (ih20 x3_9 (x4_10 + 1) (by omega) (by omega) (by omega) (by omega) (by omega) (pStt_S i18 (by omega) (Or.inr (by unfold pSub; omega))) (by omega))
                · replace v30p := v30p.resolve_right (by omega)
                  refine s_iload kx_280_83 rfl ?_
                  refine s_istore_n kx_280_85 km_280_3 rfl ?_
                  refine r_iinc kx_280_86 rfl km_280_4 (by decide) ⟨by omega, by omega⟩ rfl ?_
                  refine s_goto (t := 36) kx_280_89 (by decide) ?_
                  exact cP.wk (lS1 rfl (lS1 rfl (lS1 rfl (lS1 rfl (lS1 rfl lS0))))) (ih20 x4_10 (x4_10 + 1) (by omega) (by omega) (by omega) (by omega) (by omega) (pStt_S i18 (by omega) (Or.inl (by unfold pSub; omega))) (by omega))
      exact cP.wk (lS1 rfl (lS1 rfl (lS1 rfl (lS1 rfl (lS1 rfl lS0))))) (key11 _ 0 1 (by omega) (by omega) (by omega) (by omega) (by omega) rfl (Nat.lt_succ_self _))
    · replace v7p := v7p.resolve_left (by omega)
      refine s_iconst (v := (-1)) kx_280_29 (by decide) ?_
      exact s_iret kx_280_30 (Or.inl kq_280) ⟨_, rfl, rfl, (by unfold pSe; rw [if_neg (by omega)])⟩
