theorem f_139 {xs : Nat → Int} {Ln d : Nat} {T : List cK} {M : cM} (hT : TT T) (hI : Rng M) {what : Int} : cC k_P xs Ln (d + 0) 139 [rf 0, (0, what)] (T, M) (qF T M 0 (fun v => v = (if what = 0 then M 0 10 else if what = 1 then M 0 11 else -1))) := by
  show cP k_P xs Ln (d + 0) 139 0 [(0, rf 0), (1, (0, what))] [] (T, M) _
  refine s_iload_n kx_139_0 rfl ?_
  refine s_if_ne (t := 9) kx_139_1 (by decide) (fun hc1 => ?_) (fun hc1 => ?_)
  · refine s_iload_n kx_139_9 rfl ?_
    refine s_iconst (v := 1) kx_139_10 (by decide) ?_
    refine s_icmp_ne (t := 21) kx_139_11 (by decide) (fun hc2 => ?_) (fun hc2 => ?_)
    · refine s_iconst (v := (-1)) kx_139_21 (by decide) ?_
      exact s_iret kx_139_22 (Or.inl kq_139) ⟨_, rfl, rfl, (by (repeat' split) <;> omega)⟩
    · refine s_aload_n kx_139_14 rfl ?_
      refine r_getU (k := 0) (f := 11) kx_139_15 kp_139_72 (tk_0 hT) kf_11_11 (fun _ => rfl) (fun v3 v3e => ?_)
      refine s_goto (t := 22) kx_139_18 (by decide) ?_
      exact s_iret kx_139_22 (Or.inl kq_139) ⟨_, rfl, rfl, (by (repeat' split) <;> omega)⟩
  · refine s_aload_n kx_139_4 rfl ?_
    refine r_getU (k := 0) (f := 10) kx_139_5 kp_139_69 (tk_0 hT) kf_11_10 (fun _ => rfl) (fun v4 v4e => ?_)
    exact s_iret kx_139_8 (Or.inl kq_139) ⟨_, rfl, rfl, (by (repeat' split) <;> omega)⟩
theorem f_217 {xs : Nat → Int} {Ln d : Nat} {T : List cK} {M : cM} (hT : TT T) (hI : Rng M) {what : Int} : cC k_P xs Ln (d + 0) 217 [rf 63, (0, what)] (T, M) (qF T M 0 (fun v => v = (if what = 0 then M 63 11 else if what = 1 then M 63 12 else -1))) := by
  show cP k_P xs Ln (d + 0) 217 0 [(0, rf 63), (1, (0, what))] [] (T, M) _
  refine s_iload_n kx_217_0 rfl ?_
  refine s_if_ne (t := 11) kx_217_1 (by decide) (fun hc1 => ?_) (fun hc1 => ?_)
  · refine s_iload_n kx_217_11 rfl ?_
    refine s_iconst (v := 1) kx_217_12 (by decide) ?_
    refine s_icmp_ne (t := 23) kx_217_13 (by decide) (fun hc2 => ?_) (fun hc2 => ?_)
    · refine s_iconst (v := (-1)) kx_217_23 (by decide) ?_
      exact s_iret kx_217_24 (Or.inl kq_217) ⟨_, rfl, rfl, (by (repeat' split) <;> omega)⟩
    · refine s_aload_n kx_217_16 rfl ?_
      refine r_getU (k := 63) (f := 12) kx_217_17 kp_217_48 (tk_63 hT) kf_12_12 (fun _ => rfl) (fun v3 v3e => ?_)
      refine s_goto (t := 24) kx_217_20 (by decide) ?_
      exact s_iret kx_217_24 (Or.inl kq_217) ⟨_, rfl, rfl, (by (repeat' split) <;> omega)⟩
  · refine s_aload_n kx_217_4 rfl ?_
    refine r_getU (k := 63) (f := 11) kx_217_5 kp_217_45 (tk_63 hT) kf_12_11 (fun _ => rfl) (fun v4 v4e => ?_)
    refine s_goto (t := 24) kx_217_8 (by decide) ?_
    exact s_iret kx_217_24 (Or.inl kq_217) ⟨_, rfl, rfl, (by (repeat' split) <;> omega)⟩
theorem f_143 {xs : Nat → Int} {Ln d : Nat} {T : List cK} {M : cM} (hT : TT T) (hI : Rng M) {t : Nat} (ht : t = 8 ∨ t = 25) (h70 : M 7 0 = ((t : Nat) : Int)) {a b : Int} : cC k_P xs Ln (d + 2) 143 [rf 0, (0, a), (0, b)] (T, M) (qF T M 0 (fun v => v = (if 0 < wy M t a b then wy M t a b else -1))) := by
  show cP k_P xs Ln (d + 2) 143 0 [(0, rf 0), (1, (0, a)), (2, (0, b))] [] (T, M) _
  refine s_aload_n kx_143_0 rfl ?_
  refine r_getR (k := 0) (f := 2) (k2 := 7) kx_143_1 kp_143_26 (tk_0 hT) kf_11_2 (by decide) (rq_0_2 hI) ?_
  refine r_getR (k := 7) (f := 0) (k2 := t) kx_143_4 kp_143_120 (tk_7 hT) kf_5_0 (by decide) h70 ?_
  refine s_iload_n kx_143_7 rfl ?_
  refine s_iload_n kx_143_8 rfl ?_
  refine s_callV2 (k := t) (s1 := 3) (s2 := 0) (as := [(0, b), (0, a)]) (rest := []) kx_143_9 kp_143_188 (Or.inl rfl) rfl (tkt_0 hT ht) ki_117 kcl_117 rfl rfl (by decide) (m_117 (d := d) (a := a) (b := b) hT hI ht) (kF (fun v1 v1p => ?_))
  refine s_istore_n kx_143_12 km_143_3 rfl ?_
  refine s_iload_n kx_143_13 rfl ?_
  refine s_if_le (t := 21) kx_143_14 (by decide) (fun hc2 => ?_) (fun hc2 => ?_)
  · refine s_iconst (v := (-1)) kx_143_21 (by decide) ?_
    exact s_iret kx_143_22 (Or.inl kq_143) ⟨_, rfl, rfl, (by (repeat' split) <;> omega)⟩
  · refine s_iload_n kx_143_17 rfl ?_
    refine s_goto (t := 22) kx_143_18 (by decide) ?_
    exact s_iret kx_143_22 (Or.inl kq_143) ⟨_, rfl, rfl, (by (repeat' split) <;> omega)⟩
theorem f_249 {xs : Nat → Int} {Ln d : Nat} {T : List cK} {M : cM} (hT : TT T) (hI : Rng M) {a b : Int} : cC k_P xs Ln (d + 1) 249 [rf 63, (0, a), (0, b)] (T, M) (qF T M 0 (fun v => v = (if (0 ≤ a ∧ a < M 65 (M 63 14).toNat) ∧ (0 ≤ b ∧ b < M 65 (M 63 14).toNat) ∧ 0 < wr M a b then wr M a b else -1))) := by
  show cP k_P xs Ln (d + 1) 249 0 [(0, rf 63), (1, (0, a)), (2, (0, b))] [] (T, M) _
  refine s_aload_n kx_249_0 rfl ?_
  refine s_iload_n kx_249_1 rfl ?_
  refine s_callV2 (k := 63) (s1 := 2) (s2 := 0) (as := [(0, a)]) (rest := []) kx_249_2 kp_249_508 (Or.inl rfl) rfl (tk_63 hT) ki_220 kcl_220 rfl rfl (by decide) (m_220 (d := d) (r := a) hT hI) (kF (fun v1 v1p => ?_))
  refine s_if_eq (t := 34) kx_249_5 (by decide) (fun hc2 => ?_) (fun hc2 => ?_)
  · replace v1p := v1p.resolve_left (by omega)
    refine s_iconst (v := (-1)) kx_249_34 (by decide) ?_
    exact s_iret kx_249_35 (Or.inl kq_249) ⟨_, rfl, rfl, (by (repeat' split) <;> omega)⟩
  · replace v1p := v1p.resolve_right (by omega)
    refine s_aload_n kx_249_8 rfl ?_
    refine s_iload_n kx_249_9 rfl ?_
    refine s_callV2 (k := 63) (s1 := 2) (s2 := 0) (as := [(0, b)]) (rest := []) kx_249_10 kp_249_508 (Or.inl rfl) rfl (tk_63 hT) ki_220 kcl_220 rfl rfl (by decide) (m_220 (d := d) (r := b) hT hI) (kF (fun v3 v3p => ?_))
    refine s_if_eq (t := 34) kx_249_13 (by decide) (fun hc4 => ?_) (fun hc4 => ?_)
    · replace v3p := v3p.resolve_left (by omega)
      refine s_iconst (v := (-1)) kx_249_34 (by decide) ?_
      exact s_iret kx_249_35 (Or.inl kq_249) ⟨_, rfl, rfl, (by (repeat' split) <;> omega)⟩
    · replace v3p := v3p.resolve_right (by omega)
      refine s_aload_n kx_249_16 rfl ?_
      refine s_iload_n kx_249_17 rfl ?_
      refine s_iload_n kx_249_18 rfl ?_
      refine s_callV2 (k := 63) (s1 := 3) (s2 := 0) (as := [(0, b), (0, a)]) (rest := []) kx_249_19 kp_249_511 (Or.inl rfl) rfl (tk_63 hT) ki_245 kcl_245 rfl rfl (by decide) (m_245 (d := d) (a := a) (b := b) hT hI (by omega) (by omega)) (kF (fun v5 v5p => ?_))
      refine s_if_le (t := 34) kx_249_22 (by decide) (fun hc6 => ?_) (fun hc6 => ?_)
      · refine s_iconst (v := (-1)) kx_249_34 (by decide) ?_
        exact s_iret kx_249_35 (Or.inl kq_249) ⟨_, rfl, rfl, (by (repeat' split) <;> omega)⟩
      · refine s_aload_n kx_249_25 rfl ?_
        refine s_iload_n kx_249_26 rfl ?_
        refine s_iload_n kx_249_27 rfl ?_
        refine s_callV2 (k := 63) (s1 := 3) (s2 := 0) (as := [(0, b), (0, a)]) (rest := []) kx_249_28 kp_249_511 (Or.inl rfl) rfl (tk_63 hT) ki_245 kcl_245 rfl rfl (by decide) (m_245 (d := d) (a := a) (b := b) hT hI (by omega) (by omega)) (kF (fun v7 v7p => ?_))
        refine s_goto (t := 35) kx_249_31 (by decide) ?_
        exact s_iret kx_249_35 (Or.inl kq_249) ⟨_, rfl, rfl, (by (repeat' split) <;> omega)⟩
def gS_72_l23 : List (Nat × Nat) := [(62, 99999)]
def gS_72_l8 : List (Nat × Nat) := [(62, 99999)]
def gS_72_m : List (Nat × Nat) := [(62, 99999)]
theorem f_72 {xs : Nat → Int} {Ln d : Nat} {T : List cK} {M : cM} (hT : TT T) (hI : Rng M) {t : Nat} (ht : t = 8 ∨ t = 25) (h70 : M 7 0 = ((t : Nat) : Int)) : cC k_P xs Ln (d + 2) 72 [rf 7, rf 62] (T, M) (qW T M gS_72_m 0 (fun v M1 => 1 ≤ v ∧ v ≤ 73 ∧ (v = 9 * M t 1 + 1))) := by
  show cP k_P xs Ln (d + 2) 72 0 [(0, rf 7), (1, rf 62)] [] (T, M) _
  have hFm : Fr gS_72_m M M := Fr.refl
  have hr10 := rgt_0_1 hI ht
  refine s_iconst (v := 0) kx_72_0 (by decide) ?_
  refine s_istore_n kx_72_1 km_72_2 rfl ?_
  refine s_bipush (v := 113) kx_72_2 (by decide) ?_
  refine s_istore_n kx_72_4 km_72_3 rfl ?_
  refine s_iconst (v := 0) kx_72_5 (by decide) ?_
  refine s_istore kx_72_6 km_72_4 rfl ?_
  have key5 : ∀ n6 : Nat, ∀ (x2_1 x3_2 x4_3 : Int), ∀ M4 : cM, Rng M4 → Fr gS_72_m M M4 → Fr gS_72_l8 M M4 → (0 ≤ x2_1) → (x2_1 ≤ 72) → (0 ≤ x4_3) → (x2_1 = 9 * x4_3) → (x4_3 ≤ 8) → (x4_3 ≤ M t 1) → (2147483647 - x4_3).toNat < n6 → cP k_P xs Ln (d + 2) 72 8 [(0, rf 7), (1, rf 62), (2, (0, x2_1)), (3, (0, x3_2)), (4, (0, x4_3))] [] (T, M4) (qW T M gS_72_m 0 (fun v M1 => 1 ≤ v ∧ v ≤ 73 ∧ (v = 9 * M t 1 + 1))) := by
    intro n6
    induction n6 with
    | zero => intro x2_1 x3_2 x4_3 M4 hI4 hFm4 fl4 i7 i8 i9 i10 i11 i12 hm13; exact absurd hm13 (Nat.not_lt_zero _)
    | succ n6 ih14 =>
      intro x2_1 x3_2 x4_3 M4 hI4 hFm4 fl4 i7 i8 i9 i10 i11 i12 hm13
      refine s_iload kx_72_8 rfl ?_
      refine s_aload_n kx_72_10 rfl ?_
      refine r_getR (k := 7) (f := 0) (k2 := t) kx_72_11 kp_72_14 (tk_7 hT) kf_5_0 (by decide) ((fl4 7 0 rfl).trans h70) ?_
      refine r_getI (k := t) (f := 1) kx_72_14 kp_72_36 (tkt_0 hT ht) kf_9_1 (fun _ => rfl) (rgt_0_1 hI4 ht) (fun v15 v15e v15a v15b => ?_)
      have v15z : M t 1 = v15 := ((fl4 t 1 (by rcases ht with rfl | rfl <;> rfl))).symm.trans v15e
      refine s_icmp_ge (t := 68) kx_72_17 (by decide) (fun hc16 => ?_) (fun hc16 => ?_)
      · refine s_aload_n kx_72_68 rfl ?_
        refine s_iload_n kx_72_69 rfl ?_
        refine s_iload_n kx_72_70 rfl ?_
        refine r_ast (k := 62) kx_72_71 (tk_62 hT) ⟨by omega, by omega⟩ hI4 ru_62 (fun M17 hI17 u17 => ?_)
        have hFm17 := hFm4.up u17 rfl
        refine s_iload_n kx_72_72 rfl ?_
        refine s_iconst (v := 1) kx_72_73 (by decide) ?_
        refine r_add kx_72_74 ⟨by omega, by omega⟩ ?_
        exact s_iret kx_72_75 (Or.inl kq_72) ⟨_, _, rfl, rfl, hI17, hFm17, (by omega)⟩
      · refine s_iconst (v := 0) kx_72_20 (by decide) ?_
        refine s_istore kx_72_21 km_72_5 rfl ?_
        have key22 : ∀ n23 : Nat, ∀ (x2_18 x3_19 x5_20 : Int), ∀ M21 : cM, Rng M21 → Fr gS_72_m M M21 → Fr gS_72_l8 M M21 → Fr gS_72_l23 M4 M21 → (0 ≤ x2_18) → (x2_18 ≤ 72) → (0 ≤ x5_20) → (x2_18 = 9 * x4_3 + x5_20) → (x5_20 ≤ 9) → (x4_3 < M t 1) → (2147483647 - x5_20).toNat < n23 → cP k_P xs Ln (d + 2) 72 23 [(0, rf 7), (1, rf 62), (2, (0, x2_18)), (3, (0, x3_19)), (4, (0, x4_3)), (5, (0, x5_20))] [] (T, M21) (qW T M gS_72_m 0 (fun v M1 => 1 ≤ v ∧ v ≤ 73 ∧ (v = 9 * M t 1 + 1))) := by
          intro n23
          induction n23 with
          | zero => intro x2_18 x3_19 x5_20 M21 hI21 hFm21 hFl821 fl21 i24 i25 i26 i27 i28 i29 hm30; exact absurd hm30 (Nat.not_lt_zero _)
          | succ n23 ih31 =>
            intro x2_18 x3_19 x5_20 M21 hI21 hFm21 hFl821 fl21 i24 i25 i26 i27 i28 i29 hm30
            refine s_iload kx_72_23 rfl ?_
            refine s_bipush (v := 9) kx_72_25 (by decide) ?_
            refine s_icmp_ge (t := 62) kx_72_27 (by decide) (fun hc32 => ?_) (fun hc32 => ?_)
            · refine r_iinc kx_72_62 rfl km_72_4 (by decide) ⟨by omega, by omega⟩ rfl ?_
              refine s_goto (t := 8) kx_72_65 (by decide) ?_
              exact cP.wk (lS1 rfl (lS1 rfl (lS1 rfl (lS1 rfl (lS1 rfl lS0))))) (ih14 x2_18 x3_19 (x4_3 + 1) M21 hI21 hFm21 hFl821 (by omega) (by omega) (by omega) (by omega) (by omega) (by omega) (by omega))
            · refine s_aload_n kx_72_30 rfl ?_
              refine s_iload_n kx_72_31 rfl ?_
              refine s_aload_n kx_72_32 rfl ?_
              refine s_iload kx_72_33 rfl ?_
              refine s_iload kx_72_35 rfl ?_
              refine s_callV2 (k := 7) (s1 := 3) (s2 := 2) (as := [(0, x5_20), (0, x4_3)]) (rest := [(0, x2_18), rf 62]) kx_72_37 kp_72_156 (Or.inl rfl) rfl (tk_7 hT) ki_73 kcl_73 rfl rfl (by decide) (m_73 (d := d) (person := x4_3) (k := x5_20) hT hI21 (by omega)) (kF (fun v33 v33p => ?_))
              refine r_ast (k := 62) kx_72_40 (tk_62 hT) ⟨by omega, by omega⟩ hI21 ru_62 (fun M34 hI34 u34 => ?_)
              have hFm34 := hFm21.up u34 rfl
              have hFl834 := hFl821.up u34 rfl
              have hFl2334 := fl21.up u34 rfl
              refine s_iconst (v := 5) kx_72_41 (by decide) ?_
              refine s_iload_n kx_72_42 rfl ?_
              refine r_imulR kx_72_43 (fun v35 v35a v35b => ?_)
              refine s_aload_n kx_72_44 rfl ?_
              refine s_iload_n kx_72_45 rfl ?_
              refine r_aldK (k := 62) kx_72_46 (tk_62 hT) ⟨by omega, by omega⟩ u34.1 ?_
              refine r_iaddR kx_72_47 (fun v36 v36a v36b => ?_)
              refine s_sipush (v := 251) kx_72_48 (by decide) ?_
              refine r_iremR kx_72_51 (by omega) (fun v37 v37a v37b => ?_)
              refine s_istore_n kx_72_52 km_72_3 rfl ?_
              refine r_iinc kx_72_53 rfl km_72_2 (by decide) ⟨by omega, by omega⟩ rfl ?_
              refine r_iinc kx_72_56 rfl km_72_5 (by decide) ⟨by omega, by omega⟩ rfl ?_
              refine s_goto (t := 23) kx_72_59 (by decide) ?_
              exact cP.wk (lS1 rfl (lS1 rfl (lS1 rfl (lS1 rfl (lS1 rfl (lS1 rfl lS0)))))) (ih31 (x2_18 + 1) v37 (x5_20 + 1) M34 hI34 hFm34 hFl834 hFl2334 (by omega) (by omega) (by omega) (by omega) (by omega) (by omega) (by omega))
        exact cP.wk (lS1 rfl (lS1 rfl (lS1 rfl (lS1 rfl (lS1 rfl (lS1 rfl lS0)))))) (key22 _ x2_1 x3_2 0 M4 hI4 hFm4 fl4 Fr.refl (by omega) (by omega) (by omega) (by omega) (by omega) (by omega) (Nat.lt_succ_self _))
  exact cP.wk (lS1 rfl (lS1 rfl (lS1 rfl (lS1 rfl (lS1 rfl lS0))))) (key5 _ 0 113 0 M hI hFm Fr.refl (by omega) (by omega) (by omega) (by omega) (by omega) (by omega) (Nat.lt_succ_self _))
def gS_161_m : List (Nat × Nat) := [(0, 9), (62, 99999)]
theorem f_161 {xs : Nat → Int} {Ln d : Nat} {T : List cK} {M : cM} (hT : TT T) (hI : Rng M) {t : Nat} (ht : t = 8 ∨ t = 25) (h70 : M 7 0 = ((t : Nat) : Int)) : cC k_P xs Ln (d + 3) 161 [rf 0] (T, M) (qW T M gS_161_m 0 (fun v M1 => v = 9 * M t 1 + 1)) := by
  show cP k_P xs Ln (d + 3) 161 0 [(0, rf 0)] [] (T, M) _
  have hFm : Fr gS_161_m M M := Fr.refl
  refine s_aload_n kx_161_0 rfl ?_
  refine s_aload_n kx_161_1 rfl ?_
  refine r_getR (k := 0) (f := 2) (k2 := 7) kx_161_2 kp_161_26 (tk_0 hT) kf_11_2 (by decide) (rq_0_2 hI) ?_
  refine s_aload_n kx_161_5 rfl ?_
  refine r_getR (k := 0) (f := 8) (k2 := 62) kx_161_6 kp_161_62 (tk_0 hT) kf_11_8 (by decide) (rq_0_8 hI) ?_
  refine s_callV2 (k := 7) (s1 := 2) (s2 := 1) (as := [rf 62]) (rest := [rf 0]) kx_161_9 kp_161_311 (Or.inl rfl) rfl (tk_7 hT) ki_72 kcl_72 rfl rfl (by decide) (f_72 (d := d) hT hI ht h70) (kW (fun v1 M2 hI2 fr2 v1p => ?_))
  have hFm2 := hFm.call fr2 rfl
  refine r_put (k := 0) (f := 9) kx_161_12 kp_161_65 (tk_0 hT) kf_11_9 rfl (by decide) (by decide) hI2 (ru_0_9 (by omega) (by omega)) (fun M3 hI3 u3 => ?_)
  have hFm3 := hFm2.up u3 rfl
  refine s_aload_n kx_161_15 rfl ?_
  refine r_getK (k := 0) (f := 9) kx_161_16 kp_161_65 (tk_0 hT) kf_11_9 (fun _ => rfl) u3.1 ?_
  exact s_iret kx_161_19 (Or.inl kq_161) ⟨_, _, rfl, rfl, hI3, hFm3, (by omega)⟩
def gS_288_l7 : List (Nat × Nat) := [(113, 99999), (63, 79)]
def gS_288_m : List (Nat × Nat) := [(113, 99999), (63, 79)]
def gS_288_l81 : List (Nat × Nat) := []
theorem f_288 {xs : Nat → Int} {Ln d : Nat} {T : List cK} {M : cM} (hT : TT T) (hI : Rng M) : cC k_P xs Ln (d + 2) 288 [rf 63] (T, M) (qW T M gS_288_m 0 (fun v M1 => v = 9 * M 69 (M 63 14).toNat + 1)) := by
  show cP k_P xs Ln (d + 2) 288 0 [(0, rf 63)] [] (T, M) _
  have hFm : Fr gS_288_m M M := Fr.refl
  have hr69 : 0 ≤ M 69 (M 63 14).toNat ∧ M 69 (M 63 14).toNat ≤ 8 := rg_69 hI
  refine s_aload_n kx_288_0 rfl ?_
  refine s_iconst (v := 0) kx_288_1 (by decide) ?_
  refine r_put (k := 63) (f := 79) kx_288_2 kp_288_252 (tk_63 hT) kf_12_79 rfl (by decide) (by decide) hI (ru_63_79 (by omega) (by omega)) (fun M1 hI1 u1 => ?_)
  have hFm1 := hFm.up u1 rfl
  refine s_iconst (v := 0) kx_288_5 (by decide) ?_
  refine s_istore_n kx_288_6 km_288_1 rfl ?_
  have key4 : ∀ n5 : Nat, ∀ (x1_2 : Int), ∀ M3 : cM, Rng M3 → Fr gS_288_m M M3 → Fr gS_288_l7 M1 M3 → (0 ≤ x1_2) → (x1_2 ≤ 8) → (M3 63 79 = 9 * x1_2) → (x1_2 ≤ M 69 (M 63 14).toNat) → (2147483647 - x1_2).toNat < n5 → cP k_P xs Ln (d + 2) 288 7 [(0, rf 63), (1, (0, x1_2))] [] (T, M3) (qW T M gS_288_m 0 (fun v M1 => v = 9 * M 69 (M 63 14).toNat + 1)) := by
    intro n5
    induction n5 with
    | zero => intro x1_2 M3 hI3 hFm3 fl3 i6 i7 i8 i9 hm10; exact absurd hm10 (Nat.not_lt_zero _)
    | succ n5 ih11 =>
      intro x1_2 M3 hI3 hFm3 fl3 i6 i7 i8 i9 hm10
      refine s_iload_n kx_288_7 rfl ?_
      refine s_aload_n kx_288_8 rfl ?_
      refine r_getR (k := 63) (f := 19) (k2 := 69) kx_288_9 kp_288_69 (tk_63 hT) kf_12_19 (by decide) (rq_63_19 hI3) ?_
      refine s_aload_n kx_288_12 rfl ?_
      refine r_getI (k := 63) (f := 14) kx_288_13 kp_288_54 (tk_63 hT) kf_12_14 (fun _ => rfl) (rg_63_14 hI3) (fun v12 v12e v12a v12b => ?_)
      have v12z : M 63 14 = v12 := (((fl3 63 14 rfl).trans (u1.2 63 14 (by omega)))).symm.trans v12e
      refine r_ald (k := 69) kx_288_16 (tk_69 hT) ⟨by omega, by omega⟩ (rg_69 hI3) (fun v13 v13e v13a v13b => ?_)
      have v13m : M 69 (M 63 14).toNat = v13 := by rw [show M 63 14 = v12 from ((((fl3 63 14 rfl).trans (u1.2 63 14 (by omega)))).symm.trans v12e)]; exact (((fl3 69 _ rfl).trans (u1.2 69 _ (by omega)))).symm.trans v13e
      refine s_icmp_ge (t := 76) kx_288_17 (by decide) (fun hc14 => ?_) (fun hc14 => ?_)
      · refine s_bipush (v := 113) kx_288_76 (by decide) ?_
        refine s_istore_n kx_288_78 km_288_1 rfl ?_
        refine s_iconst (v := 0) kx_288_79 (by decide) ?_
        refine s_istore_n kx_288_80 km_288_2 rfl ?_
        have key17 : ∀ n18 : Nat, ∀ (x1_15 x2_16 : Int), (0 ≤ x2_16) → (M3 63 79 = 9 * M 69 (M 63 14).toNat) → (M3 63 79 ≤ 72) → (2147483647 - x2_16).toNat < n18 → cP k_P xs Ln (d + 2) 288 81 [(0, rf 63), (1, (0, x1_15)), (2, (0, x2_16))] [] (T, M3) (qW T M gS_288_m 0 (fun v M1 => v = 9 * M 69 (M 63 14).toNat + 1)) := by
          intro n18
          induction n18 with
          | zero => intro x1_15 x2_16 i19 i20 i21 hm22; exact absurd hm22 (Nat.not_lt_zero _)
          | succ n18 ih23 =>
            intro x1_15 x2_16 i19 i20 i21 hm22
            refine s_iload_n kx_288_81 rfl ?_
            refine s_aload_n kx_288_82 rfl ?_
            refine r_getI (k := 63) (f := 79) kx_288_83 kp_288_252 (tk_63 hT) kf_12_79 (fun _ => rfl) (rg_63_79 hI3) (fun v24 v24e v24a v24b => ?_)
            refine s_icmp_ge (t := 110) kx_288_86 (by decide) (fun hc25 => ?_) (fun hc25 => ?_)
            · refine s_aload_n kx_288_110 rfl ?_
              refine s_iload_n kx_288_111 rfl ?_
              refine s_callV2 (k := 63) (s1 := 2) (s2 := 0) (as := [(0, x1_15)]) (rest := []) kx_288_112 kp_288_609 (Or.inl rfl) rfl (tk_63 hT) ki_286 kcl_286 rfl rfl (by decide) (m_286 (d := d + 1) (x := x1_15) hT hI3 (by omega)) (kV (fun M27 hI27 fr27 v26p => ?_))
              have hFm27 := hFm3.call fr27 rfl
              refine s_aload_n kx_288_115 rfl ?_
              refine r_getI (k := 63) (f := 79) kx_288_116 kp_288_252 (tk_63 hT) kf_12_79 (fun _ => rfl) (rg_63_79 hI27) (fun v28 v28e v28a v28b => ?_)
              have hk29 : M27 63 79 = v28 := v28e
              exact s_iret kx_288_119 (Or.inl kq_288) ⟨_, _, rfl, rfl, hI27, hFm27, (by omega)⟩
            · refine s_iconst (v := 5) kx_288_89 (by decide) ?_
              refine s_iload_n kx_288_90 rfl ?_
              refine r_imulR kx_288_91 (fun v30 v30a v30b => ?_)
              refine s_aload_n kx_288_92 rfl ?_
              refine r_getR (k := 63) (f := 78) (k2 := 113) kx_288_93 kp_288_249 (tk_63 hT) kf_12_78 (by decide) (rq_63_78 hI3) ?_
              refine s_iload_n kx_288_96 rfl ?_
              refine r_aldU (k := 113) kx_288_97 (tk_113 hT) ⟨by omega, by omega⟩ (fun v31 v31e => ?_)
              refine r_iaddR kx_288_98 (fun v32 v32a v32b => ?_)
              refine s_sipush (v := 251) kx_288_99 (by decide) ?_
              refine r_iremR kx_288_102 (by omega) (fun v33 v33a v33b => ?_)
              refine s_istore_n kx_288_103 km_288_1 rfl ?_
              refine r_iinc kx_288_104 rfl km_288_2 (by decide) ⟨by omega, by omega⟩ rfl ?_
              refine s_goto (t := 81) kx_288_107 (by decide) ?_
              exact cP.wk (lS1 rfl (lS1 rfl (lS1 rfl lS0))) (ih23 v33 (x2_16 + 1) (by omega) (by omega) (by omega) (by omega))
        exact cP.wk (lS1 rfl (lS1 rfl (lS1 rfl lS0))) (key17 _ 113 0 (by omega) (by omega) (by omega) (Nat.lt_succ_self _))
      · refine s_aload_n kx_288_20 rfl ?_
        refine s_aload_n kx_288_21 rfl ?_
        refine r_getR (k := 63) (f := 48) (k2 := 92) kx_288_22 kp_288_159 (tk_63 hT) kf_12_48 (by decide) (rq_63_48 hI3) ?_
        refine s_iload_n kx_288_25 rfl ?_
        refine r_ald (k := 92) kx_288_26 (tk_92 hT) ⟨by omega, by omega⟩ (rg_92 hI3 (by omega)) (fun v34 v34e v34a v34b => ?_)
        refine s_callV2 (k := 63) (s1 := 2) (s2 := 0) (as := [(0, v34)]) (rest := []) kx_288_27 kp_288_609 (Or.inl rfl) rfl (tk_63 hT) ki_286 kcl_286 rfl rfl (by decide) (m_286 (d := d + 1) (x := v34) hT hI3 (by omega)) (kV (fun M36 hI36 fr36 v35p => ?_))
        have hFm36 := hFm3.call fr36 rfl
        have hFl736 := fl3.call fr36 rfl
        refine s_aload_n kx_288_30 rfl ?_
        refine s_aload_n kx_288_31 rfl ?_
        refine r_getR (k := 63) (f := 49) (k2 := 93) kx_288_32 kp_288_162 (tk_63 hT) kf_12_49 (by decide) (rq_63_49 hI36) ?_
        refine s_iload_n kx_288_35 rfl ?_
        refine r_ald (k := 93) kx_288_36 (tk_93 hT) ⟨by omega, by omega⟩ (rg_93 hI36 (by omega)) (fun v37 v37e v37a v37b => ?_)
        refine s_callV2 (k := 63) (s1 := 2) (s2 := 0) (as := [(0, v37)]) (rest := []) kx_288_37 kp_288_609 (Or.inl rfl) rfl (tk_63 hT) ki_286 kcl_286 rfl rfl (by decide) (m_286 (d := d + 1) (x := v37) hT hI36 (by omega)) (kV (fun M39 hI39 fr39 v38p => ?_))
        have hFm39 := hFm36.call fr39 rfl
        have hFl739 := hFl736.call fr39 rfl
        refine s_aload_n kx_288_40 rfl ?_
        refine s_aload_n kx_288_41 rfl ?_
        refine r_getR (k := 63) (f := 50) (k2 := 94) kx_288_42 kp_288_165 (tk_63 hT) kf_12_50 (by decide) (rq_63_50 hI39) ?_
        refine s_iload_n kx_288_45 rfl ?_
        refine r_aldU (k := 94) kx_288_46 (tk_94 hT) ⟨by omega, by omega⟩ (fun v40 v40e => ?_)
        refine s_callV2 (k := 63) (s1 := 2) (s2 := 0) (as := [(0, v40)]) (rest := []) kx_288_47 kp_288_609 (Or.inl rfl) rfl (tk_63 hT) ki_286 kcl_286 rfl rfl (by decide) (m_286 (d := d + 1) (x := v40) hT hI39 (by omega)) (kV (fun M42 hI42 fr42 v41p => ?_))
        have hFm42 := hFm39.call fr42 rfl
        have hFl742 := hFl739.call fr42 rfl
        refine s_aload_n kx_288_50 rfl ?_
        refine s_aload_n kx_288_51 rfl ?_
        refine r_getR (k := 63) (f := 51) (k2 := 95) kx_288_52 kp_288_168 (tk_63 hT) kf_12_51 (by decide) (rq_63_51 hI42) ?_
        refine s_iload_n kx_288_55 rfl ?_
        refine r_aldU (k := 95) kx_288_56 (tk_95 hT) ⟨by omega, by omega⟩ (fun v43 v43e => ?_)
        refine s_callV2 (k := 63) (s1 := 2) (s2 := 0) (as := [(0, v43)]) (rest := []) kx_288_57 kp_288_612 (Or.inl rfl) rfl (tk_63 hT) ki_287 kcl_287 rfl rfl (by decide) (m_287 (d := d) (x := v43) hT hI42 (by omega)) (kV (fun M45 hI45 fr45 v44p => ?_))
        have hFm45 := hFm42.call fr45 rfl
        have hFl745 := hFl742.call fr45 rfl
        refine s_aload_n kx_288_60 rfl ?_
        refine s_aload_n kx_288_61 rfl ?_
        refine r_getR (k := 63) (f := 52) (k2 := 96) kx_288_62 kp_288_171 (tk_63 hT) kf_12_52 (by decide) (rq_63_52 hI45) ?_
        refine s_iload_n kx_288_65 rfl ?_
        refine r_aldU (k := 96) kx_288_66 (tk_96 hT) ⟨by omega, by omega⟩ (fun v46 v46e => ?_)
        refine s_callV2 (k := 63) (s1 := 2) (s2 := 0) (as := [(0, v46)]) (rest := []) kx_288_67 kp_288_612 (Or.inl rfl) rfl (tk_63 hT) ki_287 kcl_287 rfl rfl (by decide) (m_287 (d := d) (x := v46) hT hI45 (by omega)) (kV (fun M48 hI48 fr48 v47p => ?_))
        have hFm48 := hFm45.call fr48 rfl
        have hFl748 := hFl745.call fr48 rfl
        refine r_iinc kx_288_70 rfl km_288_1 (by decide) ⟨by omega, by omega⟩ rfl ?_
        refine s_goto (t := 7) kx_288_73 (by decide) ?_
        exact cP.wk (lS1 rfl (lS1 rfl lS0)) (ih11 (x1_2 + 1) M48 hI48 hFm48 hFl748 (by omega) (by omega) (by omega) (by omega) (by omega))
  have hk49 : M1 63 79 = 0 := u1.1
  exact cP.wk (lS1 rfl (lS1 rfl lS0)) (key4 _ 0 M1 hI1 hFm1 Fr.refl (by omega) (by omega) (by omega) (by omega) (Nat.lt_succ_self _))
