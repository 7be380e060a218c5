theorem g_106 {xs : Nat → Int} {Ln d : Nat} {T : List cK} {M : cM} (hT : TT T) (hI : Rng M) {t : Nat} (ht : t = 8 ∨ t = 25) (h70 : M 7 0 = ((t : Nat) : Int)) {room : Int} {D S : cM} (hC : CR D S t M) : cC k_P xs Ln (d + 0) 106 [rf t, (0, room)] (T, M) (qF T M 0 (fun v => (v = 1 ∧ 0 ≤ room ∧ room < D 0 0) ∨ (v = 0 ∧ (room < 0 ∨ D 0 0 ≤ room)))) := by
  show cP k_P xs Ln (d + 0) 106 0 [(0, rf t), (1, (0, room))] [] (T, M) _
  have hD := hC.2.1
  have hDr := hD.rg
  have hSW := hC.2.2.2.2.1
  refine s_iload_n kx_106_0 rfl ?_
  refine s_if_lt (t := 16) kx_106_1 (by decide) (fun hc1 => ?_) (fun hc1 => ?_)
  · refine s_iconst (v := 0) kx_106_16 (by decide) ?_
    exact s_iret kx_106_17 (Or.inr ⟨kq_106, by omega⟩) ⟨_, rfl, rfl, (by omega)⟩
  · refine s_iload_n kx_106_4 rfl ?_
    refine s_aload_n kx_106_5 rfl ?_
    refine r_getI (k := t) (f := 0) kx_106_6 kp_106_9 (tkt_0 hT ht) kf_9_0 (fun _ => rfl) (rgt_0_0 hI ht) (fun v2 v2e v2a v2b => ?_)
    have v2d : D 0 0 = v2 := ((hC).1 0 0 (by decide)).symm.trans v2e
    refine s_icmp_ge (t := 16) kx_106_9 (by decide) (fun hc3 => ?_) (fun hc3 => ?_)
    · refine s_iconst (v := 0) kx_106_16 (by decide) ?_
      exact s_iret kx_106_17 (Or.inr ⟨kq_106, by omega⟩) ⟨_, rfl, rfl, (by omega)⟩
    · refine s_iconst (v := 1) kx_106_12 (by decide) ?_
      refine s_goto (t := 17) kx_106_13 (by decide) ?_
      exact s_iret kx_106_17 (Or.inr ⟨kq_106, by omega⟩) ⟨_, rfl, rfl, (by omega)⟩
theorem g_107 {xs : Nat → Int} {Ln d : Nat} {T : List cK} {M : cM} (hT : TT T) (hI : Rng M) {t : Nat} (ht : t = 8 ∨ t = 25) (h70 : M 7 0 = ((t : Nat) : Int)) {person : Int} {D S : cM} (hC : CR D S t M) : cC k_P xs Ln (d + 0) 107 [rf t, (0, person)] (T, M) (qF T M 0 (fun v => (v = 1 ∧ 0 ≤ person ∧ person < D 0 1) ∨ (v = 0 ∧ (person < 0 ∨ D 0 1 ≤ person)))) := by
  show cP k_P xs Ln (d + 0) 107 0 [(0, rf t), (1, (0, person))] [] (T, M) _
  have hD := hC.2.1
  have hDr := hD.rg
  have hSW := hC.2.2.2.2.1
  refine s_iload_n kx_107_0 rfl ?_
  refine s_if_lt (t := 16) kx_107_1 (by decide) (fun hc1 => ?_) (fun hc1 => ?_)
  · refine s_iconst (v := 0) kx_107_16 (by decide) ?_
    exact s_iret kx_107_17 (Or.inr ⟨kq_107, by omega⟩) ⟨_, rfl, rfl, (by omega)⟩
  · refine s_iload_n kx_107_4 rfl ?_
    refine s_aload_n kx_107_5 rfl ?_
    refine r_getI (k := t) (f := 1) kx_107_6 kp_107_15 (tkt_0 hT ht) kf_9_1 (fun _ => rfl) (rgt_0_1 hI ht) (fun v2 v2e v2a v2b => ?_)
    have v2d : D 0 1 = v2 := ((hC).1 0 1 (by decide)).symm.trans v2e
    refine s_icmp_ge (t := 16) kx_107_9 (by decide) (fun hc3 => ?_) (fun hc3 => ?_)
    · refine s_iconst (v := 0) kx_107_16 (by decide) ?_
      exact s_iret kx_107_17 (Or.inr ⟨kq_107, by omega⟩) ⟨_, rfl, rfl, (by omega)⟩
    · refine s_iconst (v := 1) kx_107_12 (by decide) ?_
      refine s_goto (t := 17) kx_107_13 (by decide) ?_
      exact s_iret kx_107_17 (Or.inr ⟨kq_107, by omega⟩) ⟨_, rfl, rfl, (by omega)⟩
theorem g_117 {xs : Nat → Int} {Ln d : Nat} {T : List cK} {M : cM} (hT : TT T) (hI : Rng M) {t : Nat} (ht : t = 8 ∨ t = 25) (h70 : M 7 0 = ((t : Nat) : Int)) {a b : Int} {D S : cM} (hC : CR D S t M) : cC k_P xs Ln (d + 1) 117 [rf t, (0, a), (0, b)] (T, M) (qF T M 0 (fun v => v = pWy D a b ∧ 0 ≤ v ∧ v ≤ 60 ∧ (v = 0 ∨ (0 ≤ a ∧ a < D 0 0 ∧ 0 ≤ b ∧ b < D 0 0)))) := by
  show cP k_P xs Ln (d + 1) 117 0 [(0, rf t), (1, (0, a)), (2, (0, b))] [] (T, M) _
  have hD := hC.2.1
  have hDr := hD.rg
  have hSW := hC.2.2.2.2.1
  refine s_aload_n kx_117_0 rfl ?_
  refine s_iload_n kx_117_1 rfl ?_
  refine s_callV2 (k := t) (s1 := 2) (s2 := 0) (as := [(0, a)]) (rest := []) kx_117_2 kp_117_78 (Or.inl rfl) rfl (tkt_0 hT ht) ki_106 kcl_106 rfl rfl (by decide) (g_106 (d := d) (room := a) hT hI ht h70 hC) (kF (fun v1 v1p => ?_))
  refine s_if_eq (t := 30) kx_117_5 (by decide) (fun hc2 => ?_) (fun hc2 => ?_)
  · replace v1p := v1p.resolve_left (by omega)
    refine s_iconst (v := 0) kx_117_30 (by decide) ?_
    exact s_iret kx_117_31 (Or.inl kq_117) ⟨_, rfl, rfl, ⟨by unfold pWy; exact (if_neg (by omega)).symm, by omega, by omega, Or.inl rfl⟩⟩
  · replace v1p := v1p.resolve_right (by omega)
    refine s_aload_n kx_117_8 rfl ?_
    refine s_iload_n kx_117_9 rfl ?_
    refine s_callV2 (k := t) (s1 := 2) (s2 := 0) (as := [(0, b)]) (rest := []) kx_117_10 kp_117_78 (Or.inl rfl) rfl (tkt_0 hT ht) ki_106 kcl_106 rfl rfl (by decide) (g_106 (d := d) (room := b) hT hI ht h70 hC) (kF (fun v3 v3p => ?_))
    refine s_if_eq (t := 30) kx_117_13 (by decide) (fun hc4 => ?_) (fun hc4 => ?_)
    · replace v3p := v3p.resolve_left (by omega)
      refine s_iconst (v := 0) kx_117_30 (by decide) ?_
      exact s_iret kx_117_31 (Or.inl kq_117) ⟨_, rfl, rfl, ⟨by unfold pWy; exact (if_neg (by omega)).symm, by omega, by omega, Or.inl rfl⟩⟩
    · replace v3p := v3p.resolve_right (by omega)
      refine s_aload_n kx_117_16 rfl ?_
      refine r_getR (k := t) (f := 7) (k2 := (t + 4)) kx_117_17 kp_117_34 (tkt_0 hT ht) kf_9_7 (by decide) (rqt_7 hI ht) ?_
      refine s_iload_n kx_117_20 rfl ?_
      refine s_bipush (v := 8) kx_117_21 (by decide) ?_
      refine r_mul kx_117_23 ⟨by omega, by omega⟩ ?_
      refine s_iload_n kx_117_24 rfl ?_
      refine r_add kx_117_25 ⟨by omega, by omega⟩ ?_
      refine r_aldU (k := (t + 4)) kx_117_26 (tkt_4 hT ht) ⟨by omega, by omega⟩ (fun v5 v5e => ?_)
      have v5d : D 4 (((a * 8) + b)).toNat = v5 := ((hC).1 4 _ (by decide)).symm.trans v5e
      have v5w := hD.2.1 (((a * 8) + b)).toNat (by omega)
      rw [v5d] at v5w
      refine s_goto (t := 31) kx_117_27 (by decide) ?_
      exact s_iret kx_117_31 (Or.inl kq_117) ⟨_, rfl, rfl, ⟨by unfold pWy; rw [if_pos (by omega)]; exact v5d.symm, by omega, by omega, Or.inr ⟨by omega, by omega, by omega, by omega⟩⟩⟩
theorem g_118 {xs : Nat → Int} {Ln d : Nat} {T : List cK} {M : cM} (hT : TT T) (hI : Rng M) {t : Nat} (ht : t = 8 ∨ t = 25) (h70 : M 7 0 = ((t : Nat) : Int)) {a : Int} {D S : cM} (hC : CR D S t M) : cC k_P xs Ln (d + 2) 118 [rf t, (0, a)] (T, M) (qF T M 0 (fun v => 0 ≤ v ∧ v ≤ 8 ∧ (v = pNb D a (D 0 0).toNat))) := by
  show cP k_P xs Ln (d + 2) 118 0 [(0, rf t), (1, (0, a))] [] (T, M) _
  have hD := hC.2.1
  have hDr := hD.rg
  have hSW := hC.2.2.2.2.1
  refine s_iconst (v := 0) kx_118_0 (by decide) ?_
  refine s_istore_n kx_118_1 km_118_2 rfl ?_
  refine s_iconst (v := 0) kx_118_2 (by decide) ?_
  refine s_istore_n kx_118_3 km_118_3 rfl ?_
  have key3 : ∀ n4 : Nat, ∀ (x2_1 x3_2 : Int), (0 ≤ x2_1) → (x2_1 ≤ 8) → (0 ≤ x3_2) → (x2_1 = pNb D a (x3_2).toNat) → (0 ≤ x2_1) → (x2_1 ≤ x3_2) → (x3_2 ≤ D 0 0) → (2147483647 - x3_2).toNat < n4 → cP k_P xs Ln (d + 2) 118 4 [(0, rf t), (1, (0, a)), (2, (0, x2_1)), (3, (0, x3_2))] [] (T, M) (qF T M 0 (fun v => 0 ≤ v ∧ v ≤ 8 ∧ (v = pNb D a (D 0 0).toNat))) := by
    intro n4
    induction n4 with
    | zero => intro x2_1 x3_2 i5 i6 i7 i8 i9 i10 i11 hm12; exact absurd hm12 (Nat.not_lt_zero _)
    | succ n4 ih13 =>
      intro x2_1 x3_2 i5 i6 i7 i8 i9 i10 i11 hm12
      refine s_iload_n kx_118_4 rfl ?_
      refine s_aload_n kx_118_5 rfl ?_
      refine r_getI (k := t) (f := 0) kx_118_6 kp_118_9 (tkt_0 hT ht) kf_9_0 (fun _ => rfl) (rgt_0_0 hI ht) (fun v14 v14e v14a v14b => ?_)
      have v14d : D 0 0 = v14 := ((hC).1 0 0 (by decide)).symm.trans v14e
      refine s_icmp_ge (t := 35) kx_118_9 (by decide) (fun hc15 => ?_) (fun hc15 => ?_)
      · refine s_iload_n kx_118_35 rfl ?_
        exact s_iret kx_118_36 (Or.inl kq_118) ⟨_, rfl, rfl, ⟨by omega, by omega, by rw [show D 0 0 = x3_2 by omega]; omega⟩⟩
      · refine s_iload_n kx_118_12 rfl ?_
        refine s_aload_n kx_118_13 rfl ?_
        refine s_iload_n kx_118_14 rfl ?_
        refine s_iload_n kx_118_15 rfl ?_
        refine s_callV2 (k := t) (s1 := 3) (s2 := 1) (as := [(0, x3_2), (0, a)]) (rest := [(0, x2_1)]) kx_118_16 kp_118_85 (Or.inl rfl) rfl (tkt_0 hT ht) ki_117 kcl_117 rfl rfl (by decide) (g_117 (d := d) (a := a) (b := x3_2) hT hI ht h70 hC) (kF (fun v16 v16p => ?_))
        refine s_if_le (t := 26) kx_118_19 (by decide) (fun hc17 => ?_) (fun hc17 => ?_)
        · refine s_iconst (v := 0) kx_118_26 (by decide) ?_
          refine r_add kx_118_27 ⟨by omega, by omega⟩ ?_
          refine s_istore_n kx_118_28 km_118_2 rfl ?_
          refine r_iinc kx_118_29 rfl km_118_3 (by decide) ⟨by omega, by omega⟩ rfl ?_
          refine s_goto (t := 4) kx_118_32 (by decide) ?_
          have hst := @pNb_step D a _ (show 0 ≤ x3_2 by omega)
          exact cP.wk (lS1 rfl (lS1 rfl (lS1 rfl (lS1 rfl lS0)))) (ih13 (x2_1 + 0) (x3_2 + 1) (by omega) (by omega) (by omega) (by omega) (by omega) (by omega) (by omega) (by omega))
        · refine s_iconst (v := 1) kx_118_22 (by decide) ?_
          refine s_goto (t := 27) kx_118_23 (by decide) ?_
          refine r_add kx_118_27 ⟨by omega, by omega⟩ ?_
          refine s_istore_n kx_118_28 km_118_2 rfl ?_
          refine r_iinc kx_118_29 rfl km_118_3 (by decide) ⟨by omega, by omega⟩ rfl ?_
          refine s_goto (t := 4) kx_118_32 (by decide) ?_
          have hst := @pNb_step D a _ (show 0 ≤ x3_2 by omega)
          exact cP.wk (lS1 rfl (lS1 rfl (lS1 rfl (lS1 rfl lS0)))) (ih13 (x2_1 + 1) (x3_2 + 1) (by omega) (by omega) (by omega) (by omega) (by omega) (by omega) (by omega) (by omega))
  have hz : pNb D a (0 : Int).toNat = 0 := rfl
  exact cP.wk (lS1 rfl (lS1 rfl (lS1 rfl (lS1 rfl lS0)))) (key3 _ 0 0 (by omega) (by omega) (by omega) (by omega) (by omega) (by omega) (by omega) (Nat.lt_succ_self _))
theorem g_119 {xs : Nat → Int} {Ln d : Nat} {T : List cK} {M : cM} (hT : TT T) (hI : Rng M) {t : Nat} (ht : t = 8 ∨ t = 25) (h70 : M 7 0 = ((t : Nat) : Int)) {a which : Int} {D S : cM} (hC : CR D S t M) (p0 : 0 ≤ which) (p1 : which < pNb D a (D 0 0).toNat) : cC k_P xs Ln (d + 2) 119 [rf t, (0, a), (0, which)] (T, M) (qF T M 0 (fun v => 0 ≤ v ∧ v ≤ 7 ∧ (v = pNt D a which (D 0 0).toNat ∧ v < D 0 0 ∧ 0 < pWy D a v))) := by
  show cP k_P xs Ln (d + 2) 119 0 [(0, rf t), (1, (0, a)), (2, (0, which))] [] (T, M) _
  have hD := hC.2.1
  have hDr := hD.rg
  have hSW := hC.2.2.2.2.1
  refine s_iconst (v := 0) kx_119_0 (by decide) ?_
  refine s_istore_n kx_119_1 km_119_3 rfl ?_
  refine s_iconst (v := 0) kx_119_2 (by decide) ?_
  refine s_istore kx_119_3 km_119_4 rfl ?_
  have key3 : ∀ n4 : Nat, ∀ (x3_1 x4_2 : Int), (0 ≤ x3_1) → (x3_1 ≤ 8) → (0 ≤ x4_2) → (x3_1 = pNb D a (x4_2).toNat) → (0 ≤ x3_1) → (x3_1 ≤ which) → (x3_1 ≤ x4_2) → (x4_2 ≤ D 0 0) → (2147483647 - x4_2).toNat < n4 → cP k_P xs Ln (d + 2) 119 5 [(0, rf t), (1, (0, a)), (2, (0, which)), (3, (0, x3_1)), (4, (0, x4_2))] [] (T, M) (qF T M 0 (fun v => 0 ≤ v ∧ v ≤ 7 ∧ (v = pNt D a which (D 0 0).toNat ∧ v < D 0 0 ∧ 0 < pWy D a v))) := by
    intro n4
    induction n4 with
    | zero => intro x3_1 x4_2 i5 i6 i7 i8 i9 i10 i11 i12 hm13; exact absurd hm13 (Nat.not_lt_zero _)
    | succ n4 ih14 =>
      intro x3_1 x4_2 i5 i6 i7 i8 i9 i10 i11 i12 hm13
      refine s_iload kx_119_5 rfl ?_
      refine s_aload_n kx_119_7 rfl ?_
      refine r_getI (k := t) (f := 0) kx_119_8 kp_119_9 (tkt_0 hT ht) kf_9_0 (fun _ => rfl) (rgt_0_0 hI ht) (fun v15 v15e v15a v15b => ?_)
      have v15d : D 0 0 = v15 := ((hC).1 0 0 (by decide)).symm.trans v15e
      refine s_icmp_ge (t := 41) kx_119_11 (by decide) (fun hc16 => ?_) (fun hc16 => ?_)
      · refine s_iconst (v := (-1)) kx_119_41 (by decide) ?_
        exfalso
        rw [show D 0 0 = x4_2 by omega] at p1
        omega
      · refine s_aload_n kx_119_14 rfl ?_
        refine s_iload_n kx_119_15 rfl ?_
        refine s_iload kx_119_16 rfl ?_
        refine s_callV2 (k := t) (s1 := 3) (s2 := 0) (as := [(0, x4_2), (0, a)]) (rest := []) kx_119_18 kp_119_85 (Or.inl rfl) rfl (tkt_0 hT ht) ki_117 kcl_117 rfl rfl (by decide) (g_117 (d := d) (a := a) (b := x4_2) hT hI ht h70 hC) (kF (fun v17 v17p => ?_))
        refine s_if_le (t := 35) kx_119_21 (by decide) (fun hc18 => ?_) (fun hc18 => ?_)
        · refine r_iinc kx_119_35 rfl km_119_4 (by decide) ⟨by omega, by omega⟩ rfl ?_
          refine s_goto (t := 5) kx_119_38 (by decide) ?_
          have hst := @pNb_step D a _ (show 0 ≤ x4_2 by omega)
          exact cP.wk (lS1 rfl (lS1 rfl (lS1 rfl (lS1 rfl (lS1 rfl lS0))))) (ih14 x3_1 (x4_2 + 1) (by omega) (by omega) (by omega) (by omega) (by omega) (by omega) (by omega) (by omega) (by omega))
        · refine s_iload_n kx_119_24 rfl ?_
          refine s_iload_n kx_119_25 rfl ?_
          refine s_icmp_ne (t := 32) kx_119_26 (by decide) (fun hc19 => ?_) (fun hc19 => ?_)
          · refine r_iinc kx_119_32 rfl km_119_3 (by decide) ⟨by omega, by omega⟩ rfl ?_
            refine r_iinc kx_119_35 rfl km_119_4 (by decide) ⟨by omega, by omega⟩ rfl ?_
            refine s_goto (t := 5) kx_119_38 (by decide) ?_
            have hst := @pNb_step D a _ (show 0 ≤ x4_2 by omega)
            exact cP.wk (lS1 rfl (lS1 rfl (lS1 rfl (lS1 rfl (lS1 rfl lS0))))) (ih14 (x3_1 + 1) (x4_2 + 1) (by omega) (by omega) (by omega) (by omega) (by omega) (by omega) (by omega) (by omega) (by omega))
          · refine s_iload kx_119_29 rfl ?_
            exact s_iret kx_119_31 (Or.inl kq_119) ⟨_, rfl, rfl, ⟨by omega, by omega, (pNt_eq (by omega) (by omega) (by omega) _ (by omega)).symm, by omega, by omega⟩⟩
  have hz : pNb D a (0 : Int).toNat = 0 := rfl
  exact cP.wk (lS1 rfl (lS1 rfl (lS1 rfl (lS1 rfl (lS1 rfl lS0))))) (key3 _ 0 0 (by omega) (by omega) (by omega) (by omega) (by omega) (by omega) (by omega) (by omega) (Nat.lt_succ_self _))
theorem g_116 {xs : Nat → Int} {Ln d : Nat} {T : List cK} {M : cM} (hT : TT T) (hI : Rng M) {t : Nat} (ht : t = 8 ∨ t = 25) (h70 : M 7 0 = ((t : Nat) : Int)) {chair : Int} {D S : cM} (hC : CR D S t M) (p0 : 0 ≤ chair ∧ chair ≤ 7) (p1 : chair < D 0 1) : cC k_P xs Ln (d + 1) 116 [rf t, (0, chair)] (T, M) (qF T M 0 (fun v => 0 ≤ v ∧ v ≤ 18 ∧ (v = pDw D chair))) := by
  show cP k_P xs Ln (d + 1) 116 0 [(0, rf t), (1, (0, chair))] [] (T, M) _
  have hD := hC.2.1
  have hDr := hD.rg
  have hSW := hC.2.2.2.2.1
  refine s_aload_n kx_116_0 rfl ?_
  refine s_iload_n kx_116_1 rfl ?_
  refine s_callV2 (k := t) (s1 := 2) (s2 := 0) (as := [(0, chair)]) (rest := []) kx_116_2 kp_116_82 (Or.inl rfl) rfl (tkt_0 hT ht) ki_107 kcl_107 rfl rfl (by decide) (g_107 (d := d) (person := chair) hT hI ht h70 hC) (kF (fun v1 v1p => ?_))
  refine s_if_ne (t := 10) kx_116_5 (by decide) (fun hc2 => ?_) (fun hc2 => ?_)
  · replace v1p := v1p.resolve_right (by omega)
    refine s_aload_n kx_116_10 rfl ?_
    refine r_getR (k := t) (f := 11) (k2 := (t + 8)) kx_116_11 kp_116_46 (tkt_0 hT ht) kf_9_11 (by decide) (rqt_11 hI ht) ?_
    refine s_iload_n kx_116_14 rfl ?_
    refine r_aldU (k := (t + 8)) kx_116_15 (tkt_8 hT ht) ⟨by omega, by omega⟩ (fun v3 v3e => ?_)
    have v3d : D 8 (chair).toNat = v3 := ((hC).1 8 _ (by decide)).symm.trans v3e
    have v3w := hD.1.wd (p := chair) ⟨by omega, by omega⟩
    rw [v3d] at v3w
    refine s_aload_n kx_116_16 rfl ?_
    refine s_aload_n kx_116_17 rfl ?_
    refine r_getR (k := t) (f := 12) (k2 := (t + 9)) kx_116_18 kp_116_49 (tkt_0 hT ht) kf_9_12 (by decide) (rqt_12 hI ht) ?_
    refine s_iload_n kx_116_21 rfl ?_
    refine r_aldU (k := (t + 9)) kx_116_22 (tkt_9 hT ht) ⟨by omega, by omega⟩ (fun v4 v4e => ?_)
    have v4d : D 9 (chair).toNat = v4 := ((hC).1 9 _ (by decide)).symm.trans v4e
    have v4w := hD.1.pt (p := chair) ⟨by omega, by omega⟩
    rw [v4d] at v4w
    refine s_callV2 (k := t) (s1 := 2) (s2 := 1) (as := [(0, v4)]) (rest := [(0, v3)]) kx_116_23 kp_116_82 (Or.inl rfl) rfl (tkt_0 hT ht) ki_107 kcl_107 rfl rfl (by decide) (g_107 (d := d) (person := v4) hT hI ht h70 hC) (kF (fun v5 v5p => ?_))
    refine s_if_eq (t := 43) kx_116_26 (by decide) (fun hc6 => ?_) (fun hc6 => ?_)
    · replace v5p := v5p.resolve_left (by omega)
      refine s_iconst (v := 0) kx_116_43 (by decide) ?_
      refine r_add kx_116_44 ⟨by omega, by omega⟩ ?_
      exact s_iret kx_116_45 (Or.inl kq_116) ⟨_, rfl, rfl, ⟨by omega, by omega, (by unfold pDw; rw [v4d]; first | (rw [if_pos (by omega)]; omega) | (rw [if_neg (by omega)]; omega))⟩⟩
    · replace v5p := v5p.resolve_right (by omega)
      refine s_aload_n kx_116_29 rfl ?_
      refine r_getR (k := t) (f := 11) (k2 := (t + 8)) kx_116_30 kp_116_46 (tkt_0 hT ht) kf_9_11 (by decide) (rqt_11 hI ht) ?_
      refine s_aload_n kx_116_33 rfl ?_
      refine r_getR (k := t) (f := 12) (k2 := (t + 9)) kx_116_34 kp_116_49 (tkt_0 hT ht) kf_9_12 (by decide) (rqt_12 hI ht) ?_
      refine s_iload_n kx_116_37 rfl ?_
      refine r_aldK (k := (t + 9)) kx_116_38 (tkt_9 hT ht) ⟨by omega, by omega⟩ v4e ?_
      refine r_aldU (k := (t + 8)) kx_116_39 (tkt_8 hT ht) ⟨by omega, by omega⟩ (fun v7 v7e => ?_)
      have v7d : D 8 (v4).toNat = v7 := ((hC).1 8 _ (by decide)).symm.trans v7e
      have v7w := hD.1.wd (p := v4) ⟨by omega, by omega⟩
      rw [v7d] at v7w
      refine s_goto (t := 44) kx_116_40 (by decide) ?_
      refine r_add kx_116_44 ⟨by omega, by omega⟩ ?_
      exact s_iret kx_116_45 (Or.inl kq_116) ⟨_, rfl, rfl, ⟨by omega, by omega, (by unfold pDw; rw [v4d]; first | (rw [if_pos (by omega)]; omega) | (rw [if_neg (by omega)]; omega))⟩⟩
  · replace v1p := v1p.resolve_left (by omega)
    refine s_iconst (v := 0) kx_116_8 (by decide) ?_
    exact s_iret kx_116_9 (Or.inl kq_116) ⟨_, rfl, rfl, ⟨by omega, by omega, (by omega)⟩⟩
theorem g_43 {xs : Nat → Int} {Ln d : Nat} {T : List cK} {M : cM} (hT : TT T) (hI : Rng M) {t : Nat} (ht : t = 8 ∨ t = 25) (h70 : M 7 0 = ((t : Nat) : Int)) {person : Int} {D S : cM} (hC : CR D S t M) (p0 : 0 ≤ person ∧ person ≤ 7) (p1 : person < D 0 1) : cC k_P xs Ln (d + 0) 43 [rf 7, (0, person)] (T, M) (qF T M 0 (fun v => 0 ≤ v ∧ v ≤ 7 ∧ (v = S 0 person.toNat ∧ v < D 0 0))) := by
  show cP k_P xs Ln (d + 0) 43 0 [(0, rf 7), (1, (0, person))] [] (T, M) _
  have hD := hC.2.1
  have hDr := hD.rg
  have hSW := hC.2.2.2.2.1
  refine s_aload_n kx_43_0 rfl ?_
  refine r_getR (k := 7) (f := 2) (k2 := 42) kx_43_1 kp_43_21 (tk_7 hT) kf_5_2 (by decide) (rq_7_2 hI) ?_
  refine s_iconst (v := 0) kx_43_4 (by decide) ?_
  refine s_iload_n kx_43_5 rfl ?_
  refine r_add kx_43_6 ⟨by omega, by omega⟩ ?_
  refine r_ald (k := 42) kx_43_7 (tk_42 hT) ⟨by omega, by omega⟩ (rgA hI (by omega)) (fun v1 v1e v1a v1b => ?_)
  exact s_iret kx_43_8 (Or.inl kq_43) ⟨_, rfl, rfl, ⟨by omega, by omega, by have h9 := (CR.rm hC (p := person) ⟨by omega, by omega⟩ rfl).symm.trans ((congrArg (M 42) (by omega)).trans v1e); have h8 := hSW.at (p := person) ⟨by omega, by omega⟩; omega⟩⟩
theorem g_44 {xs : Nat → Int} {Ln d : Nat} {T : List cK} {M : cM} (hT : TT T) (hI : Rng M) {t : Nat} (ht : t = 8 ∨ t = 25) (h70 : M 7 0 = ((t : Nat) : Int)) {chair : Int} {D S : cM} (hC : CR D S t M) (p0 : 0 ≤ chair ∧ chair ≤ 7) (p1 : chair < D 0 1) : cC k_P xs Ln (d + 0) 44 [rf 7, (0, chair)] (T, M) (qF T M 0 (fun v => 0 ≤ v ∧ v ≤ 7 ∧ (v = S 1 chair.toNat ∧ v < D 0 0))) := by
  show cP k_P xs Ln (d + 0) 44 0 [(0, rf 7), (1, (0, chair))] [] (T, M) _
  have hD := hC.2.1
  have hDr := hD.rg
  have hSW := hC.2.2.2.2.1
  refine s_aload_n kx_44_0 rfl ?_
  refine r_getR (k := 7) (f := 2) (k2 := 42) kx_44_1 kp_44_21 (tk_7 hT) kf_5_2 (by decide) (rq_7_2 hI) ?_
  refine s_bipush (v := 8) kx_44_4 (by decide) ?_
  refine s_iload_n kx_44_6 rfl ?_
  refine r_add kx_44_7 ⟨by omega, by omega⟩ ?_
  refine r_ald (k := 42) kx_44_8 (tk_42 hT) ⟨by omega, by omega⟩ (rgA hI (by omega)) (fun v1 v1e v1a v1b => ?_)
  exact s_iret kx_44_9 (Or.inl kq_44) ⟨_, rfl, rfl, ⟨by omega, by omega, by have h9 := (CR.ch hC (p := chair) ⟨by omega, by omega⟩ rfl).symm.trans ((congrArg (M 42) (by omega)).trans v1e); have h8 := hSW.at (p := chair) ⟨by omega, by omega⟩; omega⟩⟩
theorem g_45 {xs : Nat → Int} {Ln d : Nat} {T : List cK} {M : cM} (hT : TT T) (hI : Rng M) {t : Nat} (ht : t = 8 ∨ t = 25) (h70 : M 7 0 = ((t : Nat) : Int)) {chair : Int} {D S : cM} (hC : CR D S t M) (p0 : 0 ≤ chair ∧ chair ≤ 7) (p1 : chair < D 0 1) : cC k_P xs Ln (d + 0) 45 [rf 7, (0, chair)] (T, M) (qF T M 0 (fun v => (v = 1 ∧ S 2 chair.toNat = 1) ∨ (v = 0 ∧ S 2 chair.toNat = 0))) := by
  show cP k_P xs Ln (d + 0) 45 0 [(0, rf 7), (1, (0, chair))] [] (T, M) _
  have hD := hC.2.1
  have hDr := hD.rg
  have hSW := hC.2.2.2.2.1
  refine s_aload_n kx_45_0 rfl ?_
  refine r_getR (k := 7) (f := 2) (k2 := 42) kx_45_1 kp_45_21 (tk_7 hT) kf_5_2 (by decide) (rq_7_2 hI) ?_
  refine s_bipush (v := 16) kx_45_4 (by decide) ?_
  refine s_iload_n kx_45_6 rfl ?_
  refine r_add kx_45_7 ⟨by omega, by omega⟩ ?_
  refine r_aldU (k := 42) kx_45_8 (tk_42 hT) ⟨by omega, by omega⟩ (fun v1 v1e => ?_)
  have h9 : S 2 chair.toNat = v1 := (CR.br hC (p := chair) ⟨by omega, by omega⟩ rfl).symm.trans ((congrArg (M 42) (by omega)).trans v1e)
  have h8 := (hSW.at (p := chair) ⟨by omega, by omega⟩).2.2
  refine s_if_eq (t := 16) kx_45_9 (by decide) (fun hc2 => ?_) (fun hc2 => ?_)
  · refine s_iconst (v := 0) kx_45_16 (by decide) ?_
    exact s_iret kx_45_17 (Or.inr ⟨kq_45, by omega⟩) ⟨_, rfl, rfl, (by omega)⟩
  · refine s_iconst (v := 1) kx_45_12 (by decide) ?_
    refine s_goto (t := 17) kx_45_13 (by decide) ?_
    exact s_iret kx_45_17 (Or.inr ⟨kq_45, by omega⟩) ⟨_, rfl, rfl, (by omega)⟩
theorem g_56 {xs : Nat → Int} {Ln d : Nat} {T : List cK} {M : cM} (hT : TT T) (hI : Rng M) {t : Nat} (ht : t = 8 ∨ t = 25) (h70 : M 7 0 = ((t : Nat) : Int)) {room without : Int} {D S : cM} (hC : CR D S t M) : cC k_P xs Ln (d + 1) 56 [rf 7, (0, room), (0, without)] (T, M) (qF T M 0 (fun v => 0 ≤ v ∧ v ≤ 72 ∧ (v = pLd D S room without (D 0 1).toNat))) := by
  show cP k_P xs Ln (d + 1) 56 0 [(0, rf 7), (1, (0, room)), (2, (0, without))] [] (T, M) _
  have hD := hC.2.1
  have hDr := hD.rg
  have hSW := hC.2.2.2.2.1
  refine s_iconst (v := 0) kx_56_0 (by decide) ?_
  refine s_istore_n kx_56_1 km_56_3 rfl ?_
  refine s_iconst (v := 0) kx_56_2 (by decide) ?_
  refine s_istore kx_56_3 km_56_4 rfl ?_
  have key3 : ∀ n4 : Nat, ∀ (x3_1 x4_2 : Int), (0 ≤ x3_1) → (x3_1 ≤ 72) → (0 ≤ x4_2) → (x4_2 ≤ 8) → (x3_1 ≤ 9 * x4_2) → (x4_2 ≤ D 0 1) → (x3_1 = pLd D S room without (x4_2).toNat) → (2147483647 - x4_2).toNat < n4 → cP k_P xs Ln (d + 1) 56 5 [(0, rf 7), (1, (0, room)), (2, (0, without)), (3, (0, x3_1)), (4, (0, x4_2))] [] (T, M) (qF T M 0 (fun v => 0 ≤ v ∧ v ≤ 72 ∧ (v = pLd D S room without (D 0 1).toNat))) := by
    intro n4
    induction n4 with
    | zero => intro x3_1 x4_2 i5 i6 i7 i8 i9 i10 i11 hm12; exact absurd hm12 (Nat.not_lt_zero _)
    | succ n4 ih13 =>
      intro x3_1 x4_2 i5 i6 i7 i8 i9 i10 i11 hm12
      refine s_iload kx_56_5 rfl ?_
      refine s_aload_n kx_56_7 rfl ?_
      refine r_getR (k := 7) (f := 0) (k2 := t) kx_56_8 kp_56_14 (tk_7 hT) kf_5_0 (by decide) h70 ?_
      refine r_getI (k := t) (f := 1) kx_56_11 kp_56_36 (tkt_0 hT ht) kf_9_1 (fun _ => rfl) (rgt_0_1 hI ht) (fun v14 v14e v14a v14b => ?_)
      have v14d : D 0 1 = v14 := ((hC).1 0 1 (by decide)).symm.trans v14e
      refine s_icmp_ge (t := 56) kx_56_14 (by decide) (fun hc15 => ?_) (fun hc15 => ?_)
      · refine s_iload_n kx_56_56 rfl ?_
        exact s_iret kx_56_57 (Or.inl kq_56) ⟨_, rfl, rfl, ⟨by omega, by omega, by rw [show D 0 1 = x4_2 by omega]; exact i11⟩⟩
      · refine s_iload_n kx_56_17 rfl ?_
        refine s_iload kx_56_18 rfl ?_
        refine s_iload_n kx_56_20 rfl ?_
        refine s_icmp_eq (t := 47) kx_56_21 (by decide) (fun hc16 => ?_) (fun hc16 => ?_)
        · refine s_iconst (v := 0) kx_56_47 (by decide) ?_
          refine r_add kx_56_48 ⟨by omega, by omega⟩ ?_
          refine s_istore_n kx_56_49 km_56_3 rfl ?_
          refine r_iinc kx_56_50 rfl km_56_4 (by decide) ⟨by omega, by omega⟩ rfl ?_
          refine s_goto (t := 5) kx_56_53 (by decide) ?_
          exact cP.wk (lS1 rfl (lS1 rfl (lS1 rfl (lS1 rfl (lS1 rfl lS0))))) (ih13 (x3_1 + 0) (x4_2 + 1) (by omega) (by omega) (by omega) (by omega) (by omega) (by omega) (pLd_S i11 (by omega) (Or.inr ⟨by omega, rfl⟩)) (by omega))
        · refine s_aload_n kx_56_24 rfl ?_
          refine s_iload kx_56_25 rfl ?_
          refine s_callV2 (k := 7) (s1 := 2) (s2 := 1) (as := [(0, x4_2)]) (rest := [(0, x3_1)]) kx_56_27 kp_56_66 (Or.inl rfl) rfl (tk_7 hT) ki_44 kcl_44 rfl rfl (by decide) (g_44 (d := d) (chair := x4_2) hT hI ht h70 hC (by omega) (by omega)) (kF (fun v17 v17p => ?_))
          refine s_iload_n kx_56_30 rfl ?_
          refine s_icmp_ne (t := 47) kx_56_31 (by decide) (fun hc18 => ?_) (fun hc18 => ?_)
          · refine s_iconst (v := 0) kx_56_47 (by decide) ?_
            refine r_add kx_56_48 ⟨by omega, by omega⟩ ?_
            refine s_istore_n kx_56_49 km_56_3 rfl ?_
            refine r_iinc kx_56_50 rfl km_56_4 (by decide) ⟨by omega, by omega⟩ rfl ?_
            refine s_goto (t := 5) kx_56_53 (by decide) ?_
            exact cP.wk (lS1 rfl (lS1 rfl (lS1 rfl (lS1 rfl (lS1 rfl lS0))))) (ih13 (x3_1 + 0) (x4_2 + 1) (by omega) (by omega) (by omega) (by omega) (by omega) (by omega) (pLd_S i11 (by omega) (Or.inr ⟨by omega, rfl⟩)) (by omega))
          · refine s_aload_n kx_56_34 rfl ?_
            refine r_getR (k := 7) (f := 0) (k2 := t) kx_56_35 kp_56_14 (tk_7 hT) kf_5_0 (by decide) h70 ?_
            refine r_getR (k := t) (f := 11) (k2 := (t + 8)) kx_56_38 kp_56_69 (tkt_0 hT ht) kf_9_11 (by decide) (rqt_11 hI ht) ?_
            refine s_iload kx_56_41 rfl ?_
            refine r_aldU (k := (t + 8)) kx_56_43 (tkt_8 hT ht) ⟨by omega, by omega⟩ (fun v19 v19e => ?_)
            have v19d : D 8 (x4_2).toNat = v19 := ((hC).1 8 _ (by decide)).symm.trans v19e
            have v19w := hD.1.wd (p := x4_2) ⟨by omega, by omega⟩
            rw [v19d] at v19w
            refine s_goto (t := 48) kx_56_44 (by decide) ?_
            refine r_add kx_56_48 ⟨by omega, by omega⟩ ?_
            refine s_istore_n kx_56_49 km_56_3 rfl ?_
            refine r_iinc kx_56_50 rfl km_56_4 (by decide) ⟨by omega, by omega⟩ rfl ?_
            refine s_goto (t := 5) kx_56_53 (by decide) ?_
            exact cP.wk (lS1 rfl (lS1 rfl (lS1 rfl (lS1 rfl (lS1 rfl lS0))))) (ih13 (x3_1 + v19) (x4_2 + 1) (by omega) (by omega) (by omega) (by omega) (by omega) (by omega) (pLd_S i11 (by omega) (Or.inl ⟨by omega, by omega, v19d.symm⟩)) (by omega))
  exact cP.wk (lS1 rfl (lS1 rfl (lS1 rfl (lS1 rfl (lS1 rfl lS0))))) (key3 _ 0 0 (by omega) (by omega) (by omega) (by omega) (by omega) (by omega) rfl (Nat.lt_succ_self _))
theorem g_57 {xs : Nat → Int} {Ln d : Nat} {T : List cK} {M : cM} (hT : TT T) (hI : Rng M) {t : Nat} (ht : t = 8 ∨ t = 25) (h70 : M 7 0 = ((t : Nat) : Int)) {room chair : Int} {D S : cM} (hC : CR D S t M) : cC k_P xs Ln (d + 2) 57 [rf 7, (0, room), (0, chair)] (T, M) (qF T M 0 (fun v => (v = 1 ∧ 0 ≤ room ∧ room < D 0 0 ∧ 0 ≤ chair ∧ chair < D 0 1 ∧ pAd D S room chair = 1) ∨ (v = 0 ∧ pAd D S room chair = 0))) := by
  show cP k_P xs Ln (d + 2) 57 0 [(0, rf 7), (1, (0, room)), (2, (0, chair))] [] (T, M) _
  have hD := hC.2.1
  have hDr := hD.rg
  have hSW := hC.2.2.2.2.1
  refine s_aload_n kx_57_0 rfl ?_
  refine r_getR (k := 7) (f := 0) (k2 := t) kx_57_1 kp_57_14 (tk_7 hT) kf_5_0 (by decide) h70 ?_
  refine s_iload_n kx_57_4 rfl ?_
  refine s_callV2 (k := t) (s1 := 2) (s2 := 0) (as := [(0, room)]) (rest := []) kx_57_5 kp_57_72 (Or.inl rfl) rfl (tkt_0 hT ht) ki_106 kcl_106 rfl rfl (by decide) (g_106 (d := d + 1) (room := room) hT hI ht h70 hC) (kF (fun v1 v1p => ?_))
  refine s_if_eq (t := 74) kx_57_8 (by decide) (fun hc2 => ?_) (fun hc2 => ?_)
  · replace v1p := v1p.resolve_left (by omega)
    refine s_iconst (v := 0) kx_57_74 (by decide) ?_
    exact s_iret kx_57_75 (Or.inr ⟨kq_57, by omega⟩) ⟨_, rfl, rfl, (Or.inr ⟨rfl, by unfold pAd; exact if_neg (by omega)⟩)⟩
  · replace v1p := v1p.resolve_right (by omega)
    refine s_aload_n kx_57_11 rfl ?_
    refine r_getR (k := 7) (f := 0) (k2 := t) kx_57_12 kp_57_14 (tk_7 hT) kf_5_0 (by decide) h70 ?_
    refine s_iload_n kx_57_15 rfl ?_
    refine s_callV2 (k := t) (s1 := 2) (s2 := 0) (as := [(0, chair)]) (rest := []) kx_57_16 kp_57_75 (Or.inl rfl) rfl (tkt_0 hT ht) ki_107 kcl_107 rfl rfl (by decide) (g_107 (d := d + 1) (person := chair) hT hI ht h70 hC) (kF (fun v3 v3p => ?_))
    refine s_if_eq (t := 74) kx_57_19 (by decide) (fun hc4 => ?_) (fun hc4 => ?_)
    · replace v3p := v3p.resolve_left (by omega)
      refine s_iconst (v := 0) kx_57_74 (by decide) ?_
      exact s_iret kx_57_75 (Or.inr ⟨kq_57, by omega⟩) ⟨_, rfl, rfl, (Or.inr ⟨rfl, by unfold pAd; exact if_neg (by omega)⟩)⟩
    · replace v3p := v3p.resolve_right (by omega)
      refine s_aload_n kx_57_22 rfl ?_
      refine r_getR (k := 7) (f := 0) (k2 := t) kx_57_23 kp_57_14 (tk_7 hT) kf_5_0 (by decide) h70 ?_
      refine s_iload_n kx_57_26 rfl ?_
      refine s_callV2 (k := t) (s1 := 2) (s2 := 0) (as := [(0, chair)]) (rest := []) kx_57_27 kp_57_78 (Or.inl rfl) rfl (tkt_0 hT ht) ki_116 kcl_116 rfl rfl (by decide) (g_116 (d := d) (chair := chair) hT hI ht h70 hC (by omega) (by omega)) (kF (fun v5 v5p => ?_))
      refine s_aload_n kx_57_30 rfl ?_
      refine r_getR (k := 7) (f := 0) (k2 := t) kx_57_31 kp_57_14 (tk_7 hT) kf_5_0 (by decide) h70 ?_
      refine r_getR (k := t) (f := 5) (k2 := (t + 2)) kx_57_34 kp_57_81 (tkt_0 hT ht) kf_9_5 (by decide) (rqt_5 hI ht) ?_
      refine s_iload_n kx_57_37 rfl ?_
      refine r_aldU (k := (t + 2)) kx_57_38 (tkt_2 hT ht) ⟨by omega, by omega⟩ (fun v6 v6e => ?_)
      have v6d : D 2 (room).toNat = v6 := ((hC).1 2 _ (by decide)).symm.trans v6e
      refine s_icmp_gt (t := 74) kx_57_39 (by decide) (fun hc7 => ?_) (fun hc7 => ?_)
      · refine s_iconst (v := 0) kx_57_74 (by decide) ?_
        exact s_iret kx_57_75 (Or.inr ⟨kq_57, by omega⟩) ⟨_, rfl, rfl, (Or.inr ⟨rfl, by unfold pAd; exact if_neg (by omega)⟩)⟩
      · refine s_aload_n kx_57_42 rfl ?_
        refine s_iload_n kx_57_43 rfl ?_
        refine s_iload_n kx_57_44 rfl ?_
        refine s_callV2 (k := 7) (s1 := 3) (s2 := 0) (as := [(0, chair), (0, room)]) (rest := []) kx_57_45 kp_57_84 (Or.inl rfl) rfl (tk_7 hT) ki_56 kcl_56 rfl rfl (by decide) (g_56 (d := d) (room := room) (without := chair) hT hI ht h70 hC) (kF (fun v8 v8p => ?_))
        refine s_aload_n kx_57_48 rfl ?_
        refine r_getR (k := 7) (f := 0) (k2 := t) kx_57_49 kp_57_14 (tk_7 hT) kf_5_0 (by decide) h70 ?_
        refine r_getR (k := t) (f := 11) (k2 := (t + 8)) kx_57_52 kp_57_69 (tkt_0 hT ht) kf_9_11 (by decide) (rqt_11 hI ht) ?_
        refine s_iload_n kx_57_55 rfl ?_
        refine r_aldU (k := (t + 8)) kx_57_56 (tkt_8 hT ht) ⟨by omega, by omega⟩ (fun v9 v9e => ?_)
        have v9d : D 8 (chair).toNat = v9 := ((hC).1 8 _ (by decide)).symm.trans v9e
        have v9w := hD.1.wd (p := chair) ⟨by omega, by omega⟩
        rw [v9d] at v9w
        refine r_add kx_57_57 ⟨by omega, by omega⟩ ?_
        refine s_aload_n kx_57_58 rfl ?_
        refine r_getR (k := 7) (f := 0) (k2 := t) kx_57_59 kp_57_14 (tk_7 hT) kf_5_0 (by decide) h70 ?_
        refine r_getR (k := t) (f := 6) (k2 := (t + 3)) kx_57_62 kp_57_87 (tkt_0 hT ht) kf_9_6 (by decide) (rqt_6 hI ht) ?_
        refine s_iload_n kx_57_65 rfl ?_
        refine r_aldU (k := (t + 3)) kx_57_66 (tkt_3 hT ht) ⟨by omega, by omega⟩ (fun v10 v10e => ?_)
        have v10d : D 3 (room).toNat = v10 := ((hC).1 3 _ (by decide)).symm.trans v10e
        refine s_icmp_gt (t := 74) kx_57_67 (by decide) (fun hc11 => ?_) (fun hc11 => ?_)
        · refine s_iconst (v := 0) kx_57_74 (by decide) ?_
          exact s_iret kx_57_75 (Or.inr ⟨kq_57, by omega⟩) ⟨_, rfl, rfl, (Or.inr ⟨rfl, by unfold pAd; exact if_neg (by omega)⟩)⟩
        · refine s_iconst (v := 1) kx_57_70 (by decide) ?_
          refine s_goto (t := 75) kx_57_71 (by decide) ?_
          exact s_iret kx_57_75 (Or.inr ⟨kq_57, by omega⟩) ⟨_, rfl, rfl, (Or.inl ⟨rfl, by omega, by omega, by omega, by omega, by unfold pAd; exact if_pos (by omega)⟩)⟩
theorem g_59 {xs : Nat → Int} {Ln d : Nat} {T : List cK} {M : cM} (hT : TT T) (hI : Rng M) {t : Nat} (ht : t = 8 ∨ t = 25) (h70 : M 7 0 = ((t : Nat) : Int)) {person room own : Int} {D S : cM} (hC : CR D S t M) (p0 : 0 ≤ person ∧ person ≤ 7) (p1 : person < D 0 1) : cC k_P xs Ln (d + 1) 59 [rf 7, (0, person), (0, room), (0, own)] (T, M) (qF T M 0 (fun v => (v = 1 ∧ pSi D S person room own = 1) ∨ (v = 0 ∧ pSi D S person room own = 0))) := by
  show cP k_P xs Ln (d + 1) 59 0 [(0, rf 7), (1, (0, person)), (2, (0, room)), (3, (0, own))] [] (T, M) _
  have hD := hC.2.1
  have hDr := hD.rg
  have hSW := hC.2.2.2.2.1
  refine s_aload_n kx_59_0 rfl ?_
  refine r_getR (k := 7) (f := 0) (k2 := t) kx_59_1 kp_59_14 (tk_7 hT) kf_5_0 (by decide) h70 ?_
  refine r_getR (k := t) (f := 12) (k2 := (t + 9)) kx_59_4 kp_59_94 (tkt_0 hT ht) kf_9_12 (by decide) (rqt_12 hI ht) ?_
  refine s_iload_n kx_59_7 rfl ?_
  refine r_aldU (k := (t + 9)) kx_59_8 (tkt_9 hT ht) ⟨by omega, by omega⟩ (fun v1 v1e => ?_)
  have v1d : D 9 (person).toNat = v1 := ((hC).1 9 _ (by decide)).symm.trans v1e
  have v1w := hD.1.pt (p := person) ⟨by omega, by omega⟩
  rw [v1d] at v1w
  refine s_istore kx_59_9 km_59_4 rfl ?_
  refine s_iload_n kx_59_11 rfl ?_
  refine s_iload_n kx_59_12 rfl ?_
  refine s_icmp_ne (t := 50) kx_59_13 (by decide) (fun hc2 => ?_) (fun hc2 => ?_)
  · refine s_iconst (v := 0) kx_59_50 (by decide) ?_
    exact s_iret kx_59_51 (Or.inr ⟨kq_59, by omega⟩) ⟨_, rfl, rfl, (Or.inr ⟨rfl, by unfold pSi; rw [v1d]; exact if_neg (by omega)⟩)⟩
  · refine s_aload_n kx_59_16 rfl ?_
    refine s_iload_n kx_59_17 rfl ?_
    refine s_callV2 (k := 7) (s1 := 2) (s2 := 0) (as := [(0, person)]) (rest := []) kx_59_18 kp_59_47 (Or.inl rfl) rfl (tk_7 hT) ki_45 kcl_45 rfl rfl (by decide) (g_45 (d := d) (chair := person) hT hI ht h70 hC (by omega) (by omega)) (kF (fun v3 v3p => ?_))
    refine s_if_ne (t := 50) kx_59_21 (by decide) (fun hc4 => ?_) (fun hc4 => ?_)
    · replace v3p := v3p.resolve_right (by omega)
      refine s_iconst (v := 0) kx_59_50 (by decide) ?_
      exact s_iret kx_59_51 (Or.inr ⟨kq_59, by omega⟩) ⟨_, rfl, rfl, (Or.inr ⟨rfl, by unfold pSi; rw [v1d]; exact if_neg (by omega)⟩)⟩
    · replace v3p := v3p.resolve_left (by omega)
      refine s_aload_n kx_59_24 rfl ?_
      refine r_getR (k := 7) (f := 0) (k2 := t) kx_59_25 kp_59_14 (tk_7 hT) kf_5_0 (by decide) h70 ?_
      refine s_iload kx_59_28 rfl ?_
      refine s_callV2 (k := t) (s1 := 2) (s2 := 0) (as := [(0, v1)]) (rest := []) kx_59_30 kp_59_75 (Or.inl rfl) rfl (tkt_0 hT ht) ki_107 kcl_107 rfl rfl (by decide) (g_107 (d := d) (person := v1) hT hI ht h70 hC) (kF (fun v5 v5p => ?_))
      refine s_if_eq (t := 46) kx_59_33 (by decide) (fun hc6 => ?_) (fun hc6 => ?_)
      · replace v5p := v5p.resolve_left (by omega)
        refine s_iconst (v := 1) kx_59_46 (by decide) ?_
        refine s_goto (t := 51) kx_59_47 (by decide) ?_
        exact s_iret kx_59_51 (Or.inr ⟨kq_59, by omega⟩) ⟨_, rfl, rfl, (Or.inl ⟨rfl, by unfold pSi; rw [v1d]; exact if_pos (by omega)⟩)⟩
      · replace v5p := v5p.resolve_right (by omega)
        refine s_aload_n kx_59_36 rfl ?_
        refine s_iload kx_59_37 rfl ?_
        refine s_callV2 (k := 7) (s1 := 2) (s2 := 0) (as := [(0, v1)]) (rest := []) kx_59_39 kp_59_66 (Or.inl rfl) rfl (tk_7 hT) ki_44 kcl_44 rfl rfl (by decide) (g_44 (d := d) (chair := v1) hT hI ht h70 hC (by omega) (by omega)) (kF (fun v7 v7p => ?_))
        refine s_iload_n kx_59_42 rfl ?_
        refine s_icmp_ne (t := 50) kx_59_43 (by decide) (fun hc8 => ?_) (fun hc8 => ?_)
        · refine s_iconst (v := 0) kx_59_50 (by decide) ?_
          exact s_iret kx_59_51 (Or.inr ⟨kq_59, by omega⟩) ⟨_, rfl, rfl, (Or.inr ⟨rfl, by unfold pSi; rw [v1d]; exact if_neg (by omega)⟩)⟩
        · refine s_iconst (v := 1) kx_59_46 (by decide) ?_
          refine s_goto (t := 51) kx_59_47 (by decide) ?_
          exact s_iret kx_59_51 (Or.inr ⟨kq_59, by omega⟩) ⟨_, rfl, rfl, (Or.inl ⟨rfl, by unfold pSi; rw [v1d]; exact if_pos (by omega)⟩)⟩
theorem g_58 {xs : Nat → Int} {Ln d : Nat} {T : List cK} {M : cM} (hT : TT T) (hI : Rng M) {t : Nat} (ht : t = 8 ∨ t = 25) (h70 : M 7 0 = ((t : Nat) : Int)) {person : Int} {D S : cM} (hC : CR D S t M) (p0 : 0 ≤ person ∧ person ≤ 7) (p1 : person < D 0 1) : cC k_P xs Ln (d + 2) 58 [rf 7, (0, person)] (T, M) (qF T M 0 (fun v => (v = 1 ∧ pSi D S person (S 0 person.toNat) (S 1 person.toNat) = 1) ∨ (v = 0 ∧ pSi D S person (S 0 person.toNat) (S 1 person.toNat) = 0))) := by
  show cP k_P xs Ln (d + 2) 58 0 [(0, rf 7), (1, (0, person))] [] (T, M) _
  have hD := hC.2.1
  have hDr := hD.rg
  have hSW := hC.2.2.2.2.1
  refine s_aload_n kx_58_0 rfl ?_
  refine s_iload_n kx_58_1 rfl ?_
  refine s_aload_n kx_58_2 rfl ?_
  refine s_iload_n kx_58_3 rfl ?_
  refine s_callV2 (k := 7) (s1 := 2) (s2 := 2) (as := [(0, person)]) (rest := [(0, person), rf 7]) kx_58_4 kp_58_63 (Or.inl rfl) rfl (tk_7 hT) ki_43 kcl_43 rfl rfl (by decide) (g_43 (d := d + 1) (person := person) hT hI ht h70 hC (by omega) (by omega)) (kF (fun v1 v1p => ?_))
  refine s_aload_n kx_58_7 rfl ?_
  refine s_iload_n kx_58_8 rfl ?_
  refine s_callV2 (k := 7) (s1 := 2) (s2 := 3) (as := [(0, person)]) (rest := [(0, v1), (0, person), rf 7]) kx_58_9 kp_58_66 (Or.inl rfl) rfl (tk_7 hT) ki_44 kcl_44 rfl rfl (by decide) (g_44 (d := d + 1) (chair := person) hT hI ht h70 hC (by omega) (by omega)) (kF (fun v2 v2p => ?_))
  refine s_callV2 (k := 7) (s1 := 4) (s2 := 0) (as := [(0, v2), (0, v1), (0, person)]) (rest := []) kx_58_12 kp_58_90 (Or.inl rfl) rfl (tk_7 hT) ki_59 kcl_59 rfl rfl (by decide) (g_59 (d := d) (person := person) (room := v1) (own := v2) hT hI ht h70 hC (by omega) (by omega)) (kF (fun v3 v3p => ?_))
  exact s_iret kx_58_15 (Or.inr ⟨kq_58, by omega⟩) ⟨_, rfl, rfl, (by have h1 := v1p.2.2.1; have h2 := v2p.2.2.1; rw [← h1, ← h2]; exact v3p)⟩
theorem g_60 {xs : Nat → Int} {Ln d : Nat} {T : List cK} {M : cM} (hT : TT T) (hI : Rng M) {t : Nat} (ht : t = 8 ∨ t = 25) (h70 : M 7 0 = ((t : Nat) : Int)) {person to chair : Int} {D S : cM} (hC : CR D S t M) (p0 : 0 ≤ person ∧ person ≤ 7) (p1 : person < D 0 1) : cC k_P xs Ln (d + 3) 60 [rf 7, (0, person), (0, to), (0, chair)] (T, M) (qF T M 0 (fun v => (v = 1 ∧ 0 ≤ to ∧ to < D 0 0 ∧ 0 ≤ chair ∧ chair < D 0 1 ∧ pCn D S person to chair = 1) ∨ (v = 0 ∧ pCn D S person to chair = 0))) := by
  show cP k_P xs Ln (d + 3) 60 0 [(0, rf 7), (1, (0, person)), (2, (0, to)), (3, (0, chair))] [] (T, M) _
  have hD := hC.2.1
  have hDr := hD.rg
  have hSW := hC.2.2.2.2.1
  refine s_aload_n kx_60_0 rfl ?_
  refine r_getR (k := 7) (f := 0) (k2 := t) kx_60_1 kp_60_14 (tk_7 hT) kf_5_0 (by decide) h70 ?_
  refine s_iload_n kx_60_4 rfl ?_
  refine s_callV2 (k := t) (s1 := 2) (s2 := 0) (as := [(0, chair)]) (rest := []) kx_60_5 kp_60_75 (Or.inl rfl) rfl (tkt_0 hT ht) ki_107 kcl_107 rfl rfl (by decide) (g_107 (d := d + 2) (person := chair) hT hI ht h70 hC) (kF (fun v1 v1p => ?_))
  refine s_if_eq (t := 45) kx_60_8 (by decide) (fun hc2 => ?_) (fun hc2 => ?_)
  · replace v1p := v1p.resolve_left (by omega)
    refine s_iconst (v := 0) kx_60_45 (by decide) ?_
    exact s_iret kx_60_46 (Or.inr ⟨kq_60, by omega⟩) ⟨_, rfl, rfl, (Or.inr ⟨rfl, by unfold pCn; exact if_neg (by omega)⟩)⟩
  · replace v1p := v1p.resolve_right (by omega)
    refine s_aload_n kx_60_11 rfl ?_
    refine s_iload_n kx_60_12 rfl ?_
    refine s_callV2 (k := 7) (s1 := 2) (s2 := 0) (as := [(0, chair)]) (rest := []) kx_60_13 kp_60_47 (Or.inl rfl) rfl (tk_7 hT) ki_45 kcl_45 rfl rfl (by decide) (g_45 (d := d + 2) (chair := chair) hT hI ht h70 hC (by omega) (by omega)) (kF (fun v3 v3p => ?_))
    refine s_if_ne (t := 45) kx_60_16 (by decide) (fun hc4 => ?_) (fun hc4 => ?_)
    · replace v3p := v3p.resolve_right (by omega)
      refine s_iconst (v := 0) kx_60_45 (by decide) ?_
      exact s_iret kx_60_46 (Or.inr ⟨kq_60, by omega⟩) ⟨_, rfl, rfl, (Or.inr ⟨rfl, by unfold pCn; exact if_neg (by omega)⟩)⟩
    · replace v3p := v3p.resolve_left (by omega)
      refine s_aload_n kx_60_19 rfl ?_
      refine s_iload_n kx_60_20 rfl ?_
      refine s_callV2 (k := 7) (s1 := 2) (s2 := 0) (as := [(0, chair)]) (rest := []) kx_60_21 kp_60_66 (Or.inl rfl) rfl (tk_7 hT) ki_44 kcl_44 rfl rfl (by decide) (g_44 (d := d + 2) (chair := chair) hT hI ht h70 hC (by omega) (by omega)) (kF (fun v5 v5p => ?_))
      refine s_aload_n kx_60_24 rfl ?_
      refine s_iload_n kx_60_25 rfl ?_
      refine s_callV2 (k := 7) (s1 := 2) (s2 := 1) (as := [(0, person)]) (rest := [(0, v5)]) kx_60_26 kp_60_63 (Or.inl rfl) rfl (tk_7 hT) ki_43 kcl_43 rfl rfl (by decide) (g_43 (d := d + 2) (person := person) hT hI ht h70 hC (by omega) (by omega)) (kF (fun v6 v6p => ?_))
      refine s_icmp_ne (t := 45) kx_60_29 (by decide) (fun hc7 => ?_) (fun hc7 => ?_)
      · refine s_iconst (v := 0) kx_60_45 (by decide) ?_
        exact s_iret kx_60_46 (Or.inr ⟨kq_60, by omega⟩) ⟨_, rfl, rfl, (Or.inr ⟨rfl, by unfold pCn; exact if_neg (by omega)⟩)⟩
      · refine s_aload_n kx_60_32 rfl ?_
        refine s_iload_n kx_60_33 rfl ?_
        refine s_iload_n kx_60_34 rfl ?_
        refine s_callV2 (k := 7) (s1 := 3) (s2 := 0) (as := [(0, chair), (0, to)]) (rest := []) kx_60_35 kp_60_97 (Or.inl rfl) rfl (tk_7 hT) ki_57 kcl_57 rfl rfl (by decide) (g_57 (d := d) (room := to) (chair := chair) hT hI ht h70 hC) (kF (fun v8 v8p => ?_))
        refine s_if_eq (t := 45) kx_60_38 (by decide) (fun hc9 => ?_) (fun hc9 => ?_)
        · replace v8p := v8p.resolve_left (by omega)
          refine s_iconst (v := 0) kx_60_45 (by decide) ?_
          exact s_iret kx_60_46 (Or.inr ⟨kq_60, by omega⟩) ⟨_, rfl, rfl, (Or.inr ⟨rfl, by unfold pCn; exact if_neg (by omega)⟩)⟩
        · replace v8p := v8p.resolve_right (by omega)
          refine s_iconst (v := 1) kx_60_41 (by decide) ?_
          refine s_goto (t := 46) kx_60_42 (by decide) ?_
          exact s_iret kx_60_46 (Or.inr ⟨kq_60, by omega⟩) ⟨_, rfl, rfl, (Or.inl ⟨rfl, by omega, by omega, by omega, by omega, by unfold pCn; exact if_pos (by omega)⟩)⟩
theorem g_70 {xs : Nat → Int} {Ln d : Nat} {T : List cK} {M : cM} (hT : TT T) (hI : Rng M) {t : Nat} (ht : t = 8 ∨ t = 25) (h70 : M 7 0 = ((t : Nat) : Int)) {person chair : Int} {D S : cM} (hC : CR D S t M) : cC k_P xs Ln (d + 1) 70 [rf 7, (0, person), (0, chair)] (T, M) (qF T M 0 (fun v => (v = 1 ∧ 0 ≤ person ∧ person < D 0 1 ∧ 0 ≤ chair ∧ chair < D 0 1 ∧ pCm D S person chair = 1) ∨ (v = 0 ∧ pCm D S person chair = 0))) := by
  show cP k_P xs Ln (d + 1) 70 0 [(0, rf 7), (1, (0, person)), (2, (0, chair))] [] (T, M) _
  have hD := hC.2.1
  have hDr := hD.rg
  have hSW := hC.2.2.2.2.1
  refine s_aload_n kx_70_0 rfl ?_
  refine r_getR (k := 7) (f := 0) (k2 := t) kx_70_1 kp_70_14 (tk_7 hT) kf_5_0 (by decide) h70 ?_
  refine s_iload_n kx_70_4 rfl ?_
  refine s_callV2 (k := t) (s1 := 2) (s2 := 0) (as := [(0, person)]) (rest := []) kx_70_5 kp_70_75 (Or.inl rfl) rfl (tkt_0 hT ht) ki_107 kcl_107 rfl rfl (by decide) (g_107 (d := d) (person := person) hT hI ht h70 hC) (kF (fun v1 v1p => ?_))
  refine s_if_eq (t := 81) kx_70_8 (by decide) (fun hc2 => ?_) (fun hc2 => ?_)
  · replace v1p := v1p.resolve_left (by omega)
    refine s_iconst (v := 0) kx_70_81 (by decide) ?_
    exact s_iret kx_70_82 (Or.inr ⟨kq_70, by omega⟩) ⟨_, rfl, rfl, (Or.inr ⟨rfl, by unfold pCm; exact if_neg (by omega)⟩)⟩
  · replace v1p := v1p.resolve_right (by omega)
    refine s_aload_n kx_70_11 rfl ?_
    refine r_getR (k := 7) (f := 0) (k2 := t) kx_70_12 kp_70_14 (tk_7 hT) kf_5_0 (by decide) h70 ?_
    refine s_iload_n kx_70_15 rfl ?_
    refine s_callV2 (k := t) (s1 := 2) (s2 := 0) (as := [(0, chair)]) (rest := []) kx_70_16 kp_70_75 (Or.inl rfl) rfl (tkt_0 hT ht) ki_107 kcl_107 rfl rfl (by decide) (g_107 (d := d) (person := chair) hT hI ht h70 hC) (kF (fun v3 v3p => ?_))
    refine s_if_eq (t := 81) kx_70_19 (by decide) (fun hc4 => ?_) (fun hc4 => ?_)
    · replace v3p := v3p.resolve_left (by omega)
      refine s_iconst (v := 0) kx_70_81 (by decide) ?_
      exact s_iret kx_70_82 (Or.inr ⟨kq_70, by omega⟩) ⟨_, rfl, rfl, (Or.inr ⟨rfl, by unfold pCm; exact if_neg (by omega)⟩)⟩
    · replace v3p := v3p.resolve_right (by omega)
      refine s_aload_n kx_70_22 rfl ?_
      refine r_getR (k := 7) (f := 0) (k2 := t) kx_70_23 kp_70_14 (tk_7 hT) kf_5_0 (by decide) h70 ?_
      refine s_aload_n kx_70_26 rfl ?_
      refine r_getR (k := 7) (f := 0) (k2 := t) kx_70_27 kp_70_14 (tk_7 hT) kf_5_0 (by decide) h70 ?_
      refine r_getU (k := t) (f := 3) kx_70_30 kp_70_153 (tkt_0 hT ht) kf_9_3 (fun _ => rfl) (fun v5 v5e => ?_)
      have v5d : D 0 3 = v5 := ((hC).1 0 3 (by decide)).symm.trans v5e
      refine s_callV2 (k := t) (s1 := 2) (s2 := 0) (as := [(0, v5)]) (rest := []) kx_70_33 kp_70_72 (Or.inl rfl) rfl (tkt_0 hT ht) ki_106 kcl_106 rfl rfl (by decide) (g_106 (d := d) (room := v5) hT hI ht h70 hC) (kF (fun v6 v6p => ?_))
      refine s_if_eq (t := 81) kx_70_36 (by decide) (fun hc7 => ?_) (fun hc7 => ?_)
      · replace v6p := v6p.resolve_left (by omega)
        refine s_iconst (v := 0) kx_70_81 (by decide) ?_
        exact s_iret kx_70_82 (Or.inr ⟨kq_70, by omega⟩) ⟨_, rfl, rfl, (Or.inr ⟨rfl, by unfold pCm; exact if_neg (by omega)⟩)⟩
      · replace v6p := v6p.resolve_right (by omega)
        refine s_aload_n kx_70_39 rfl ?_
        refine s_iload_n kx_70_40 rfl ?_
        refine s_callV2 (k := 7) (s1 := 2) (s2 := 0) (as := [(0, person)]) (rest := []) kx_70_41 kp_70_63 (Or.inl rfl) rfl (tk_7 hT) ki_43 kcl_43 rfl rfl (by decide) (g_43 (d := d) (person := person) hT hI ht h70 hC (by omega) (by omega)) (kF (fun v8 v8p => ?_))
        refine s_aload_n kx_70_44 rfl ?_
        refine r_getR (k := 7) (f := 0) (k2 := t) kx_70_45 kp_70_14 (tk_7 hT) kf_5_0 (by decide) h70 ?_
        refine r_getK (k := t) (f := 3) kx_70_48 kp_70_153 (tkt_0 hT ht) kf_9_3 (fun _ => rfl) v5e ?_
        refine s_icmp_ne (t := 81) kx_70_51 (by decide) (fun hc9 => ?_) (fun hc9 => ?_)
        · refine s_iconst (v := 0) kx_70_81 (by decide) ?_
          exact s_iret kx_70_82 (Or.inr ⟨kq_70, by omega⟩) ⟨_, rfl, rfl, (Or.inr ⟨rfl, by unfold pCm; exact if_neg (by omega)⟩)⟩
        · refine s_aload_n kx_70_54 rfl ?_
          refine s_iload_n kx_70_55 rfl ?_
          refine s_callV2 (k := 7) (s1 := 2) (s2 := 0) (as := [(0, chair)]) (rest := []) kx_70_56 kp_70_66 (Or.inl rfl) rfl (tk_7 hT) ki_44 kcl_44 rfl rfl (by decide) (g_44 (d := d) (chair := chair) hT hI ht h70 hC (by omega) (by omega)) (kF (fun v10 v10p => ?_))
          refine s_aload_n kx_70_59 rfl ?_
          refine r_getR (k := 7) (f := 0) (k2 := t) kx_70_60 kp_70_14 (tk_7 hT) kf_5_0 (by decide) h70 ?_
          refine r_getK (k := t) (f := 3) kx_70_63 kp_70_153 (tkt_0 hT ht) kf_9_3 (fun _ => rfl) v5e ?_
          refine s_icmp_ne (t := 81) kx_70_66 (by decide) (fun hc11 => ?_) (fun hc11 => ?_)
          · refine s_iconst (v := 0) kx_70_81 (by decide) ?_
            exact s_iret kx_70_82 (Or.inr ⟨kq_70, by omega⟩) ⟨_, rfl, rfl, (Or.inr ⟨rfl, by unfold pCm; exact if_neg (by omega)⟩)⟩
          · refine s_aload_n kx_70_69 rfl ?_
            refine s_iload_n kx_70_70 rfl ?_
            refine s_callV2 (k := 7) (s1 := 2) (s2 := 0) (as := [(0, chair)]) (rest := []) kx_70_71 kp_70_47 (Or.inl rfl) rfl (tk_7 hT) ki_45 kcl_45 rfl rfl (by decide) (g_45 (d := d) (chair := chair) hT hI ht h70 hC (by omega) (by omega)) (kF (fun v12 v12p => ?_))
            refine s_if_eq (t := 81) kx_70_74 (by decide) (fun hc13 => ?_) (fun hc13 => ?_)
            · replace v12p := v12p.resolve_left (by omega)
              refine s_iconst (v := 0) kx_70_81 (by decide) ?_
              exact s_iret kx_70_82 (Or.inr ⟨kq_70, by omega⟩) ⟨_, rfl, rfl, (Or.inr ⟨rfl, by unfold pCm; exact if_neg (by omega)⟩)⟩
            · replace v12p := v12p.resolve_right (by omega)
              refine s_iconst (v := 1) kx_70_77 (by decide) ?_
              refine s_goto (t := 82) kx_70_78 (by decide) ?_
              exact s_iret kx_70_82 (Or.inr ⟨kq_70, by omega⟩) ⟨_, rfl, rfl, (Or.inl ⟨rfl, by omega, by omega, by omega, by omega, by unfold pCm; exact if_pos (by omega)⟩)⟩
theorem g_46 {xs : Nat → Int} {Ln d : Nat} {T : List cK} {M : cM} (hT : TT T) (hI : Rng M) {t : Nat} (ht : t = 8 ∨ t = 25) (h70 : M 7 0 = ((t : Nat) : Int)) {person : Int} {D S : cM} (hC : CR D S t M) (p0 : 0 ≤ person ∧ person ≤ 7) (p1 : person < D 0 1) : cC k_P xs Ln (d + 0) 46 [rf 7, (0, person)] (T, M) (qF T M 0 (fun v => 0 ≤ v ∧ v ≤ 99999 ∧ (v = S 4 person.toNat))) := by
  show cP k_P xs Ln (d + 0) 46 0 [(0, rf 7), (1, (0, person))] [] (T, M) _
  have hD := hC.2.1
  have hDr := hD.rg
  have hSW := hC.2.2.2.2.1
  refine s_aload_n kx_46_0 rfl ?_
  refine r_getR (k := 7) (f := 2) (k2 := 42) kx_46_1 kp_46_21 (tk_7 hT) kf_5_2 (by decide) (rq_7_2 hI) ?_
  refine s_bipush (v := 24) kx_46_4 (by decide) ?_
  refine s_iload_n kx_46_6 rfl ?_
  refine r_add kx_46_7 ⟨by omega, by omega⟩ ?_
  refine r_aldU (k := 42) kx_46_8 (tk_42 hT) ⟨by omega, by omega⟩ (fun v1 v1e => ?_)
  have h9 := (CR.cl hC (p := person) ⟨by omega, by omega⟩ rfl).symm.trans ((congrArg (M 42) (by omega)).trans v1e); have h8 := (hSW.at (p := person) ⟨by omega, by omega⟩).2.2.2
  exact s_iret kx_46_9 (Or.inl kq_46) ⟨_, rfl, rfl, ⟨by omega, by omega, by omega⟩⟩
def gC_63_m : List (Nat × Nat) := [(43, 99999)]
theorem g_63 {xs : Nat → Int} {Ln d : Nat} {T : List cK} {M : cM} (hT : TT T) (hI : Rng M) {t : Nat} (ht : t = 8 ∨ t = 25) (h70 : M 7 0 = ((t : Nat) : Int)) {person chair minutes : Int} {D S : cM} (hC : CR D S t M) (p0 : 0 ≤ person ∧ person ≤ 7) (p1 : 0 ≤ chair ∧ chair ≤ 7) (p2 : person < D 0 1) (p3 : chair < D 0 1) : cC k_P xs Ln (d + 1) 63 [rf 7, (0, person), (0, chair), (0, minutes)] (T, M) (qV T M gC_63_m (fun M1 => CR D S t M1 ∧ ∀ c : Int, -6 ≤ c → c ≤ -1 → M1 43 (-1 - c).toNat = gvn D S person chair minutes c)) := by
  show cP k_P xs Ln (d + 1) 63 0 [(0, rf 7), (1, (0, person)), (2, (0, chair)), (3, (0, minutes))] [] (T, M) _
  have hFm : Fr gC_63_m M M := Fr.refl
  have hD := hC.2.1
  have hDr := hD.rg
  have hSW := hC.2.2.2.2.1
  refine s_aload_n kx_63_0 rfl ?_
  refine r_getR (k := 7) (f := 3) (k2 := 43) kx_63_1 kp_63_27 (tk_7 hT) kf_5_3 (by decide) (rq_7_3 hI) ?_
  refine s_iconst (v := 0) kx_63_4 (by decide) ?_
  refine s_iload_n kx_63_5 rfl ?_
  refine r_ast (k := 43) kx_63_6 (tk_43 hT) ⟨by decide, by decide⟩ hI ru_43 (fun M1 hI1 u1 => ?_)
  have hFm1 := hFm.up u1 rfl
  have hc2 := (CR.up hC u1 ht (by omega))
  refine s_aload_n kx_63_7 rfl ?_
  refine r_getR (k := 7) (f := 3) (k2 := 43) kx_63_8 kp_63_27 (tk_7 hT) kf_5_3 (by decide) (rq_7_3 hI1) ?_
  refine s_iconst (v := 1) kx_63_11 (by decide) ?_
  refine s_aload_n kx_63_12 rfl ?_
  refine r_getR (k := 7) (f := 0) (k2 := t) kx_63_13 kp_63_14 (tk_7 hT) kf_5_0 (by decide) ((u1.2 7 0 (by omega)).trans h70) ?_
  refine r_getR (k := t) (f := 10) (k2 := (t + 7)) kx_63_16 kp_63_126 (tkt_0 hT ht) kf_9_10 (by decide) (rqt_10 hI1 ht) ?_
  refine s_iload_n kx_63_19 rfl ?_
  refine r_aldU (k := (t + 7)) kx_63_20 (tkt_7 hT ht) ⟨by omega, by omega⟩ (fun v3 v3e => ?_)
  have v3d : D 7 (chair).toNat = v3 := ((hc2).1 7 _ (by decide)).symm.trans v3e
  refine r_ast (k := 43) kx_63_21 (tk_43 hT) ⟨by decide, by decide⟩ hI1 ru_43 (fun M4 hI4 u4 => ?_)
  have hFm4 := hFm1.up u4 rfl
  have hc5 := (CR.up hc2 u4 ht (by omega))
  refine s_aload_n kx_63_22 rfl ?_
  refine r_getR (k := 7) (f := 3) (k2 := 43) kx_63_23 kp_63_27 (tk_7 hT) kf_5_3 (by decide) (rq_7_3 hI4) ?_
  refine s_iconst (v := 2) kx_63_26 (by decide) ?_
  refine s_aload_n kx_63_27 rfl ?_
  refine r_getR (k := 7) (f := 0) (k2 := t) kx_63_28 kp_63_14 (tk_7 hT) kf_5_0 (by decide) ((u4.2 7 0 (by omega)).trans ((u1.2 7 0 (by omega)).trans h70)) ?_
  refine r_getR (k := t) (f := 9) (k2 := (t + 6)) kx_63_31 kp_63_129 (tkt_0 hT ht) kf_9_9 (by decide) (rqt_9 hI4 ht) ?_
  refine s_iload_n kx_63_34 rfl ?_
  refine r_aldU (k := (t + 6)) kx_63_35 (tkt_6 hT ht) ⟨by omega, by omega⟩ (fun v6 v6e => ?_)
  have v6d : D 6 (person).toNat = v6 := ((hc5).1 6 _ (by decide)).symm.trans v6e
  refine r_ast (k := 43) kx_63_36 (tk_43 hT) ⟨by decide, by decide⟩ hI4 ru_43 (fun M7 hI7 u7 => ?_)
  have hFm7 := hFm4.up u7 rfl
  have hc8 := (CR.up hc5 u7 ht (by omega))
  refine s_aload_n kx_63_37 rfl ?_
  refine r_getR (k := 7) (f := 3) (k2 := 43) kx_63_38 kp_63_27 (tk_7 hT) kf_5_3 (by decide) (rq_7_3 hI7) ?_
  refine s_iconst (v := 3) kx_63_41 (by decide) ?_
  refine s_aload_n kx_63_42 rfl ?_
  refine r_getR (k := 7) (f := 0) (k2 := t) kx_63_43 kp_63_14 (tk_7 hT) kf_5_0 (by decide) ((u7.2 7 0 (by omega)).trans ((u4.2 7 0 (by omega)).trans ((u1.2 7 0 (by omega)).trans h70))) ?_
  refine r_getR (k := t) (f := 11) (k2 := (t + 8)) kx_63_46 kp_63_69 (tkt_0 hT ht) kf_9_11 (by decide) (rqt_11 hI7 ht) ?_
  refine s_iload_n kx_63_49 rfl ?_
  refine r_aldU (k := (t + 8)) kx_63_50 (tkt_8 hT ht) ⟨by omega, by omega⟩ (fun v9 v9e => ?_)
  have v9d : D 8 (chair).toNat = v9 := ((hc8).1 8 _ (by decide)).symm.trans v9e
  have v9w := hD.1.wd (p := chair) ⟨by omega, by omega⟩
  rw [v9d] at v9w
  refine r_ast (k := 43) kx_63_51 (tk_43 hT) ⟨by decide, by decide⟩ hI7 ru_43 (fun M10 hI10 u10 => ?_)
  have hFm10 := hFm7.up u10 rfl
  have hc11 := (CR.up hc8 u10 ht (by omega))
  refine s_aload_n kx_63_52 rfl ?_
  refine r_getR (k := 7) (f := 3) (k2 := 43) kx_63_53 kp_63_27 (tk_7 hT) kf_5_3 (by decide) (rq_7_3 hI10) ?_
  refine s_iconst (v := 4) kx_63_56 (by decide) ?_
  refine s_aload_n kx_63_57 rfl ?_
  refine s_iload_n kx_63_58 rfl ?_
  refine s_callV2 (k := 7) (s1 := 2) (s2 := 2) (as := [(0, person)]) (rest := [(0, 4), rf 43]) kx_63_59 kp_63_50 (Or.inl rfl) rfl (tk_7 hT) ki_46 kcl_46 rfl rfl (by decide) (g_46 (d := d) (person := person) hT hI10 ht ((u10.2 7 0 (by omega)).trans ((u7.2 7 0 (by omega)).trans ((u4.2 7 0 (by omega)).trans ((u1.2 7 0 (by omega)).trans h70)))) hc11 (by omega) (by omega)) (kF (fun v12 v12p => ?_))
  refine r_ast (k := 43) kx_63_62 (tk_43 hT) ⟨by decide, by decide⟩ hI10 ru_43 (fun M13 hI13 u13 => ?_)
  have hFm13 := hFm10.up u13 rfl
  have hc14 := (CR.up hc11 u13 ht (by omega))
  refine s_aload_n kx_63_63 rfl ?_
  refine r_getR (k := 7) (f := 3) (k2 := 43) kx_63_64 kp_63_27 (tk_7 hT) kf_5_3 (by decide) (rq_7_3 hI13) ?_
  refine s_iconst (v := 5) kx_63_67 (by decide) ?_
  refine s_iload_n kx_63_68 rfl ?_
  refine s_iload_n kx_63_69 rfl ?_
  refine s_icmp_ne (t := 77) kx_63_70 (by decide) (fun hc15 => ?_) (fun hc15 => ?_)
  · refine s_iconst (v := 0) kx_63_77 (by decide) ?_
    refine r_ast (k := 43) kx_63_78 (tk_43 hT) ⟨by decide, by decide⟩ hI13 ru_43 (fun M16 hI16 u16 => ?_)
    have hFm16 := hFm13.up u16 rfl
    have hc17 := (CR.up hc14 u16 ht (by omega))
    exact s_vret kx_63_79 kq_63 ⟨_, rfl, rfl, hI16, hFm16, ⟨hc17, gv6 ((u16.2 43 _ (by omega)).trans ((u13.2 43 _ (by omega)).trans ((u10.2 43 _ (by omega)).trans ((u7.2 43 _ (by omega)).trans ((u4.2 43 _ (by omega)).trans u1.1))))) (((u16.2 43 _ (by omega)).trans ((u13.2 43 _ (by omega)).trans ((u10.2 43 _ (by omega)).trans ((u7.2 43 _ (by omega)).trans u4.1)))).trans v3d.symm) (((u16.2 43 _ (by omega)).trans ((u13.2 43 _ (by omega)).trans ((u10.2 43 _ (by omega)).trans u7.1))).trans v6d.symm) (((u16.2 43 _ (by omega)).trans ((u13.2 43 _ (by omega)).trans u10.1)).trans v9d.symm) (((u16.2 43 _ (by omega)).trans u13.1).trans v12p.2.2) (u16.1.trans (if_neg (by omega)).symm)⟩⟩
  · refine s_iconst (v := 1) kx_63_73 (by decide) ?_
    refine s_goto (t := 78) kx_63_74 (by decide) ?_
    refine r_ast (k := 43) kx_63_78 (tk_43 hT) ⟨by decide, by decide⟩ hI13 ru_43 (fun M18 hI18 u18 => ?_)
    have hFm18 := hFm13.up u18 rfl
    have hc19 := (CR.up hc14 u18 ht (by omega))
    exact s_vret kx_63_79 kq_63 ⟨_, rfl, rfl, hI18, hFm18, ⟨hc19, gv6 ((u18.2 43 _ (by omega)).trans ((u13.2 43 _ (by omega)).trans ((u10.2 43 _ (by omega)).trans ((u7.2 43 _ (by omega)).trans ((u4.2 43 _ (by omega)).trans u1.1))))) (((u18.2 43 _ (by omega)).trans ((u13.2 43 _ (by omega)).trans ((u10.2 43 _ (by omega)).trans ((u7.2 43 _ (by omega)).trans u4.1)))).trans v3d.symm) (((u18.2 43 _ (by omega)).trans ((u13.2 43 _ (by omega)).trans ((u10.2 43 _ (by omega)).trans u7.1))).trans v6d.symm) (((u18.2 43 _ (by omega)).trans ((u13.2 43 _ (by omega)).trans u10.1)).trans v9d.symm) (((u18.2 43 _ (by omega)).trans u13.1).trans v12p.2.2) (u18.1.trans (if_pos (by omega)).symm)⟩⟩
def gC_62_m : List (Nat × Nat) := [(20, 99999), (23, 99999), (37, 99999), (40, 99999), (43, 99999)]
theorem g_62 {xs : Nat → Int} {Ln d : Nat} {T : List cK} {M : cM} (hT : TT T) (hI : Rng M) {t : Nat} (ht : t = 8 ∨ t = 25) (h70 : M 7 0 = ((t : Nat) : Int)) {person chair wayMinutes : Int} {D S : cM} (hC : CR D S t M) (hG : Gm T M) (p0 : 0 ≤ person ∧ person ≤ 7) (p1 : (-1) ≤ chair ∧ chair ≤ 7) (p2 : 1 ≤ wayMinutes ∧ wayMinutes ≤ 60) (p3 : person < D 0 1) (p4 : chair < D 0 1) : cC k_P xs Ln (d + 4) 62 [rf 7, (0, person), (0, chair), (0, wayMinutes)] (T, M) (qW T M gC_62_m 0 (fun v M1 => 1 ≤ v ∧ v ≤ 1059 ∧ (v = if chair = -1 then wayMinutes else pCy D S person chair wayMinutes))) := by
  show cP k_P xs Ln (d + 4) 62 0 [(0, rf 7), (1, (0, person)), (2, (0, chair)), (3, (0, wayMinutes))] [] (T, M) _
  have hFm : Fr gC_62_m M M := Fr.refl
  have hD := hC.2.1
  have hDr := hD.rg
  have hSW := hC.2.2.2.2.1
  refine s_iload_n kx_62_0 rfl ?_
  refine s_iconst (v := (-1)) kx_62_1 (by decide) ?_
  refine s_icmp_eq (t := 18) kx_62_2 (by decide) (fun hc1 => ?_) (fun hc1 => ?_)
  · refine s_iload_n kx_62_18 rfl ?_
    exact s_iret kx_62_19 (Or.inl kq_62) ⟨_, _, rfl, rfl, hI, hFm, ⟨by omega, by omega, (by by_cases z : chair = -1; exact (if_pos z).symm; rw [if_neg z]; unfold pCy; exact (if_pos ((CR.slow hC hI hG ht).1.mpr (by omega))).symm)⟩⟩
  · refine s_aload_n kx_62_5 rfl ?_
    refine r_getR (k := 7) (f := 0) (k2 := t) kx_62_6 kp_62_14 (tk_7 hT) kf_5_0 (by decide) h70 ?_
    refine r_getR (k := t) (f := 14) (k2 := (t + 11)) kx_62_9 kp_62_111 (tkt_0 hT ht) kf_9_14 (by decide) (rqt_14 hI ht) ?_
    refine r_getI (k := (t + 11)) (f := 2) kx_62_12 kp_62_115 (tkf_0 hT (fF_slow ht)) kf_1_2 (fun _ => rfl) (rgf_0_2 hI (fF_slow ht)) (fun v2 v2e v2a v2b => ?_)
    refine s_if_ne (t := 20) kx_62_15 (by decide) (fun hc3 => ?_) (fun hc3 => ?_)
    · refine s_aload_n kx_62_20 rfl ?_
      refine s_iload_n kx_62_21 rfl ?_
      refine s_iload_n kx_62_22 rfl ?_
      refine s_iload_n kx_62_23 rfl ?_
      refine s_callV2 (k := 7) (s1 := 4) (s2 := 0) (as := [(0, wayMinutes), (0, chair), (0, person)]) (rest := []) kx_62_24 kp_62_118 (Or.inl rfl) rfl (tk_7 hT) ki_63 kcl_63 rfl rfl (by decide) (g_63 (d := d + 2) (person := person) (chair := chair) (minutes := wayMinutes) hT hI ht h70 hC (by omega) (by omega) (by omega) (by omega)) (kV (fun M5 hI5 fr5 v4p => ?_))
      have hFm5 := hFm.call fr5 rfl
      have hc6 := v4p.1
      refine s_iload_n kx_62_27 rfl ?_
      refine s_aload_n kx_62_28 rfl ?_
      refine r_getR (k := 7) (f := 0) (k2 := t) kx_62_29 kp_62_14 (tk_7 hT) kf_5_0 (by decide) ((fr5 7 0 rfl).trans h70) ?_
      refine r_getR (k := t) (f := 14) (k2 := (t + 11)) kx_62_32 kp_62_111 (tkt_0 hT ht) kf_9_14 (by decide) (rqt_14 hI5 ht) ?_
      refine s_aload_n kx_62_35 rfl ?_
      refine r_getR (k := 7) (f := 3) (k2 := 43) kx_62_36 kp_62_27 (tk_7 hT) kf_5_3 (by decide) (rq_7_3 hI5) ?_
      have hsz := ((fr5 (t + 11) 2 (by rcases ht with rfl | rfl <;> rfl)).trans v2e)
      have hsl := CR.slow hc6 hI5 (Gm.fr hG fr5 rfl) ht
      obtain ⟨w, hw⟩ := (hsl.2 (by omega)).2.2.run (gvn_b (p := person) (c := chair) (w := wayMinutes) hC.2.1 hSW ⟨by omega, by omega⟩ ⟨by omega, by omega⟩ ⟨by omega, by omega⟩)
      refine s_callV2 (k := (t + 11)) (s1 := 2) (s2 := 1) (as := [rf 43]) (rest := [(0, wayMinutes)]) kx_62_39 kp_62_122 (Or.inl rfl) rfl (tkf_0 hT (fF_slow ht)) ki_11 kcl_11 rfl rfl (by decide) (e_11 (d := d) hT hI5 (fF_slow ht) (Gm.fr hG fr5 rfl) (hsl.2 (by omega)).1 (hsl.2 (by omega)).2.1 hw (gvn_b (p := person) (c := chair) (w := wayMinutes) hC.2.1 hSW ⟨by omega, by omega⟩ ⟨by omega, by omega⟩ ⟨by omega, by omega⟩) v4p.2) (kW (fun v7 M8 hI8 fr8 v7p => ?_))
      have hFm8 := hFm5.call fr8 rfl
      have hc9 := (CR.fr hc6 fr8 ht rfl)
      refine r_add kx_62_42 ⟨by omega, by omega⟩ ?_
      exact s_iret kx_62_43 (Or.inl kq_62) ⟨_, _, rfl, rfl, hI8, hFm8, ⟨by omega, by omega, by rw [if_neg (by omega)]; unfold pCy; rw [if_neg (fun z => by have := (CR.slow hC hI hG ht).1.mp z; omega), ← v7p.2.2]⟩⟩
    · refine s_iload_n kx_62_18 rfl ?_
      exact s_iret kx_62_19 (Or.inl kq_62) ⟨_, _, rfl, rfl, hI, hFm, ⟨by omega, by omega, (by by_cases z : chair = -1; exact (if_pos z).symm; rw [if_neg z]; unfold pCy; exact (if_pos ((CR.slow hC hI hG ht).1.mpr (by omega))).symm)⟩⟩
def gC_61_m : List (Nat × Nat) := [(20, 99999), (23, 99999), (37, 99999), (40, 99999), (43, 99999)]
theorem g_61 {xs : Nat → Int} {Ln d : Nat} {T : List cK} {M : cM} (hT : TT T) (hI : Rng M) {t : Nat} (ht : t = 8 ∨ t = 25) (h70 : M 7 0 = ((t : Nat) : Int)) {person to chair : Int} {D S : cM} (hC : CR D S t M) (hG : Gm T M) : cC k_P xs Ln (d + 5) 61 [rf 7, (0, person), (0, to), (0, chair)] (T, M) (qW T M gC_61_m 0 (fun v M1 => (v = -1 ∧ pCg D S person to chair = 0) ∨ (v = pMi D S person to chair ∧ 1 ≤ v ∧ v ≤ 1059 ∧ 0 ≤ person ∧ person < D 0 1 ∧ 0 ≤ to ∧ to < D 0 0 ∧ (chair = -1 ∨ (0 ≤ chair ∧ chair < D 0 1)) ∧ pCg D S person to chair = 1))) := by
  show cP k_P xs Ln (d + 5) 61 0 [(0, rf 7), (1, (0, person)), (2, (0, to)), (3, (0, chair))] [] (T, M) _
  have hFm : Fr gC_61_m M M := Fr.refl
  have hD := hC.2.1
  have hDr := hD.rg
  have hSW := hC.2.2.2.2.1
  refine s_aload_n kx_61_0 rfl ?_
  refine r_getR (k := 7) (f := 0) (k2 := t) kx_61_1 kp_61_14 (tk_7 hT) kf_5_0 (by decide) h70 ?_
  refine s_iload_n kx_61_4 rfl ?_
  refine s_callV2 (k := t) (s1 := 2) (s2 := 0) (as := [(0, person)]) (rest := []) kx_61_5 kp_61_75 (Or.inl rfl) rfl (tkt_0 hT ht) ki_107 kcl_107 rfl rfl (by decide) (g_107 (d := d + 4) (person := person) hT hI ht h70 hC) (kF (fun v1 v1p => ?_))
  refine s_if_eq (t := 27) kx_61_8 (by decide) (fun hc2 => ?_) (fun hc2 => ?_)
  · replace v1p := v1p.resolve_left (by omega)
    refine s_iconst (v := (-1)) kx_61_27 (by decide) ?_
    exact s_iret kx_61_28 (Or.inl kq_61) ⟨_, _, rfl, rfl, hI, hFm, (Or.inl ⟨rfl, by unfold pCg; exact if_neg (by omega)⟩)⟩
  · replace v1p := v1p.resolve_right (by omega)
    refine s_aload_n kx_61_11 rfl ?_
    refine r_getR (k := 7) (f := 0) (k2 := t) kx_61_12 kp_61_14 (tk_7 hT) kf_5_0 (by decide) h70 ?_
    refine s_aload_n kx_61_15 rfl ?_
    refine s_iload_n kx_61_16 rfl ?_
    refine s_callV2 (k := 7) (s1 := 2) (s2 := 1) (as := [(0, person)]) (rest := [rf t]) kx_61_17 kp_61_63 (Or.inl rfl) rfl (tk_7 hT) ki_43 kcl_43 rfl rfl (by decide) (g_43 (d := d + 4) (person := person) hT hI ht h70 hC (by omega) (by omega)) (kF (fun v3 v3p => ?_))
    refine s_iload_n kx_61_20 rfl ?_
    refine s_callV2 (k := t) (s1 := 3) (s2 := 0) (as := [(0, to), (0, v3)]) (rest := []) kx_61_21 kp_61_101 (Or.inl rfl) rfl (tkt_0 hT ht) ki_117 kcl_117 rfl rfl (by decide) (g_117 (d := d + 3) (a := v3) (b := to) hT hI ht h70 hC) (kF (fun v4 v4p => ?_))
    have v4q := v4p.1
    rw [v3p.2.2.1] at v4q
    refine s_if_ne (t := 29) kx_61_24 (by decide) (fun hc5 => ?_) (fun hc5 => ?_)
    · refine s_iload_n kx_61_29 rfl ?_
      refine s_iconst (v := (-1)) kx_61_30 (by decide) ?_
      refine s_icmp_eq (t := 46) kx_61_31 (by decide) (fun hc6 => ?_) (fun hc6 => ?_)
      · refine s_aload_n kx_61_46 rfl ?_
        refine s_iload_n kx_61_47 rfl ?_
        refine s_iload_n kx_61_48 rfl ?_
        refine s_aload_n kx_61_49 rfl ?_
        refine r_getR (k := 7) (f := 0) (k2 := t) kx_61_50 kp_61_14 (tk_7 hT) kf_5_0 (by decide) h70 ?_
        refine s_aload_n kx_61_53 rfl ?_
        refine s_iload_n kx_61_54 rfl ?_
        refine s_callV2 (k := 7) (s1 := 2) (s2 := 4) (as := [(0, person)]) (rest := [rf t, (0, chair), (0, person), rf 7]) kx_61_55 kp_61_63 (Or.inl rfl) rfl (tk_7 hT) ki_43 kcl_43 rfl rfl (by decide) (g_43 (d := d + 4) (person := person) hT hI ht h70 hC (by omega) (by omega)) (kF (fun v7 v7p => ?_))
        refine s_iload_n kx_61_58 rfl ?_
        refine s_callV2 (k := t) (s1 := 3) (s2 := 3) (as := [(0, to), (0, v7)]) (rest := [(0, chair), (0, person), rf 7]) kx_61_59 kp_61_101 (Or.inl rfl) rfl (tkt_0 hT ht) ki_117 kcl_117 rfl rfl (by decide) (g_117 (d := d + 3) (a := v7) (b := to) hT hI ht h70 hC) (kF (fun v8 v8p => ?_))
        have v8q := v8p.1
        rw [v7p.2.2.1] at v8q
        refine s_callV2 (k := 7) (s1 := 4) (s2 := 0) (as := [(0, v8), (0, chair), (0, person)]) (rest := []) kx_61_62 kp_61_107 (Or.inl rfl) rfl (tk_7 hT) ki_62 kcl_62 rfl rfl (by decide) (g_62 (d := d) (person := person) (chair := chair) (wayMinutes := v8) hT hI ht h70 hC hG (by omega) (by omega) (by omega) (by omega) (by omega)) (kW (fun v9 M10 hI10 fr10 v9p => ?_))
        have hFm10 := hFm.call fr10 rfl
        exact s_iret kx_61_65 (Or.inl kq_61) ⟨_, _, rfl, rfl, hI10, hFm10, (Or.inr ⟨by rw [v9p.2.2, v8q]; unfold pMi; rfl, by omega, by omega, by omega, by omega, by omega, by omega, by omega, by unfold pCg; exact if_pos (by omega)⟩)⟩
      · refine s_aload_n kx_61_34 rfl ?_
        refine s_iload_n kx_61_35 rfl ?_
        refine s_iload_n kx_61_36 rfl ?_
        refine s_iload_n kx_61_37 rfl ?_
        refine s_callV2 (k := 7) (s1 := 4) (s2 := 0) (as := [(0, chair), (0, to), (0, person)]) (rest := []) kx_61_38 kp_61_104 (Or.inl rfl) rfl (tk_7 hT) ki_60 kcl_60 rfl rfl (by decide) (g_60 (d := d + 1) (person := person) (to := to) (chair := chair) hT hI ht h70 hC (by omega) (by omega)) (kF (fun v11 v11p => ?_))
        refine s_if_ne (t := 46) kx_61_41 (by decide) (fun hc12 => ?_) (fun hc12 => ?_)
        · replace v11p := v11p.resolve_right (by omega)
          refine s_aload_n kx_61_46 rfl ?_
          refine s_iload_n kx_61_47 rfl ?_
          refine s_iload_n kx_61_48 rfl ?_
          refine s_aload_n kx_61_49 rfl ?_
          refine r_getR (k := 7) (f := 0) (k2 := t) kx_61_50 kp_61_14 (tk_7 hT) kf_5_0 (by decide) h70 ?_
          refine s_aload_n kx_61_53 rfl ?_
          refine s_iload_n kx_61_54 rfl ?_
          refine s_callV2 (k := 7) (s1 := 2) (s2 := 4) (as := [(0, person)]) (rest := [rf t, (0, chair), (0, person), rf 7]) kx_61_55 kp_61_63 (Or.inl rfl) rfl (tk_7 hT) ki_43 kcl_43 rfl rfl (by decide) (g_43 (d := d + 4) (person := person) hT hI ht h70 hC (by omega) (by omega)) (kF (fun v13 v13p => ?_))
          refine s_iload_n kx_61_58 rfl ?_
          refine s_callV2 (k := t) (s1 := 3) (s2 := 3) (as := [(0, to), (0, v13)]) (rest := [(0, chair), (0, person), rf 7]) kx_61_59 kp_61_101 (Or.inl rfl) rfl (tkt_0 hT ht) ki_117 kcl_117 rfl rfl (by decide) (g_117 (d := d + 3) (a := v13) (b := to) hT hI ht h70 hC) (kF (fun v14 v14p => ?_))
          have v14q := v14p.1
          rw [v13p.2.2.1] at v14q
          refine s_callV2 (k := 7) (s1 := 4) (s2 := 0) (as := [(0, v14), (0, chair), (0, person)]) (rest := []) kx_61_62 kp_61_107 (Or.inl rfl) rfl (tk_7 hT) ki_62 kcl_62 rfl rfl (by decide) (g_62 (d := d) (person := person) (chair := chair) (wayMinutes := v14) hT hI ht h70 hC hG (by omega) (by omega) (by omega) (by omega) (by omega)) (kW (fun v15 M16 hI16 fr16 v15p => ?_))
          have hFm16 := hFm.call fr16 rfl
          exact s_iret kx_61_65 (Or.inl kq_61) ⟨_, _, rfl, rfl, hI16, hFm16, (Or.inr ⟨by rw [v15p.2.2, v14q]; unfold pMi; rfl, by omega, by omega, by omega, by omega, by omega, by omega, by omega, by unfold pCg; exact if_pos (by omega)⟩)⟩
        · replace v11p := v11p.resolve_left (by omega)
          refine s_iconst (v := (-1)) kx_61_44 (by decide) ?_
          exact s_iret kx_61_45 (Or.inl kq_61) ⟨_, _, rfl, rfl, hI, hFm, (Or.inl ⟨rfl, by unfold pCg; exact if_neg (by omega)⟩)⟩
    · refine s_iconst (v := (-1)) kx_61_27 (by decide) ?_
      exact s_iret kx_61_28 (Or.inl kq_61) ⟨_, _, rfl, rfl, hI, hFm, (Or.inl ⟨rfl, by unfold pCg; exact if_neg (by omega)⟩)⟩
