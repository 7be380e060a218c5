theorem g_294 {xs : Nat → Int} {Ln d : Nat} {T : List cK} {M : cM} (hT : TT T) (hI : Rng M) {a : Int} (p0 : 0 ≤ a ∧ a ≤ 255) : cC k_P xs Ln (d + 0) 294 [(0, a)] (T, M) (qF T M 0 (fun v => v = pPop a)) := by
  show cP k_P xs Ln (d + 0) 294 0 [(0, (0, a))] [] (T, M) _
  refine s_iload_n kx_294_0 rfl ?_
  refine s_iload_n kx_294_1 rfl ?_
  refine s_iconst (v := 1) kx_294_2 (by decide) ?_
  refine s_iushr (z := (tbU a 1)) kx_294_3 rfl ?_
  refine s_ldc_w kx_294_4 kp_294_265 ?_
  refine s_iand (z := (tbA (tbU a 1) 1431655765)) kx_294_7 rfl ?_
  refine s_isub (z := (tbM a (tbA (tbU a 1) 1431655765))) kx_294_8 rfl ?_
  refine s_istore_n kx_294_9 km_294_0 rfl ?_
  refine s_iload_n kx_294_10 rfl ?_
  refine s_ldc_w kx_294_11 kp_294_266 ?_
  refine s_iand (z := (tbA (tbM a (tbA (tbU a 1) 1431655765)) 858993459)) kx_294_14 rfl ?_
  refine s_iload_n kx_294_15 rfl ?_
  refine s_iconst (v := 2) kx_294_16 (by decide) ?_
  refine s_iushr (z := (tbU (tbM a (tbA (tbU a 1) 1431655765)) 2)) kx_294_17 rfl ?_
  refine s_ldc_w kx_294_18 kp_294_266 ?_
  refine s_iand (z := (tbA (tbU (tbM a (tbA (tbU a 1) 1431655765)) 2) 858993459)) kx_294_21 rfl ?_
  refine s_iadd (z := (tbP (tbA (tbM a (tbA (tbU a 1) 1431655765)) 858993459) (tbA (tbU (tbM a (tbA (tbU a 1) 1431655765)) 2) 858993459))) kx_294_22 rfl ?_
  refine s_istore_n kx_294_23 km_294_0 rfl ?_
  refine s_iload_n kx_294_24 rfl ?_
  refine s_iload_n kx_294_25 rfl ?_
  refine s_iconst (v := 4) kx_294_26 (by decide) ?_
  refine s_iushr (z := (tbU (tbP (tbA (tbM a (tbA (tbU a 1) 1431655765)) 858993459) (tbA (tbU (tbM a (tbA (tbU a 1) 1431655765)) 2) 858993459)) 4)) kx_294_27 rfl ?_
  refine s_iadd (z := (tbP (tbP (tbA (tbM a (tbA (tbU a 1) 1431655765)) 858993459) (tbA (tbU (tbM a (tbA (tbU a 1) 1431655765)) 2) 858993459)) (tbU (tbP (tbA (tbM a (tbA (tbU a 1) 1431655765)) 858993459) (tbA (tbU (tbM a (tbA (tbU a 1) 1431655765)) 2) 858993459)) 4))) kx_294_28 rfl ?_
  refine s_ldc_w kx_294_29 kp_294_267 ?_
  refine s_iand (z := (tbA (tbP (tbP (tbA (tbM a (tbA (tbU a 1) 1431655765)) 858993459) (tbA (tbU (tbM a (tbA (tbU a 1) 1431655765)) 2) 858993459)) (tbU (tbP (tbA (tbM a (tbA (tbU a 1) 1431655765)) 858993459) (tbA (tbU (tbM a (tbA (tbU a 1) 1431655765)) 2) 858993459)) 4)) 252645135)) kx_294_32 rfl ?_
  refine s_istore_n kx_294_33 km_294_0 rfl ?_
  refine s_iload_n kx_294_34 rfl ?_
  refine s_iload_n kx_294_35 rfl ?_
  refine s_bipush (v := 8) kx_294_36 (by decide) ?_
  refine s_iushr (z := (tbU (tbA (tbP (tbP (tbA (tbM a (tbA (tbU a 1) 1431655765)) 858993459) (tbA (tbU (tbM a (tbA (tbU a 1) 1431655765)) 2) 858993459)) (tbU (tbP (tbA (tbM a (tbA (tbU a 1) 1431655765)) 858993459) (tbA (tbU (tbM a (tbA (tbU a 1) 1431655765)) 2) 858993459)) 4)) 252645135) 8)) kx_294_38 rfl ?_
  refine s_iadd (z := (tbP (tbA (tbP (tbP (tbA (tbM a (tbA (tbU a 1) 1431655765)) 858993459) (tbA (tbU (tbM a (tbA (tbU a 1) 1431655765)) 2) 858993459)) (tbU (tbP (tbA (tbM a (tbA (tbU a 1) 1431655765)) 858993459) (tbA (tbU (tbM a (tbA (tbU a 1) 1431655765)) 2) 858993459)) 4)) 252645135) (tbU (tbA (tbP (tbP (tbA (tbM a (tbA (tbU a 1) 1431655765)) 858993459) (tbA (tbU (tbM a (tbA (tbU a 1) 1431655765)) 2) 858993459)) (tbU (tbP (tbA (tbM a (tbA (tbU a 1) 1431655765)) 858993459) (tbA (tbU (tbM a (tbA (tbU a 1) 1431655765)) 2) 858993459)) 4)) 252645135) 8))) kx_294_39 rfl ?_
  refine s_istore_n kx_294_40 km_294_0 rfl ?_
  refine s_iload_n kx_294_41 rfl ?_
  refine s_iload_n kx_294_42 rfl ?_
  refine s_bipush (v := 16) kx_294_43 (by decide) ?_
  refine s_iushr (z := (tbU (tbP (tbA (tbP (tbP (tbA (tbM a (tbA (tbU a 1) 1431655765)) 858993459) (tbA (tbU (tbM a (tbA (tbU a 1) 1431655765)) 2) 858993459)) (tbU (tbP (tbA (tbM a (tbA (tbU a 1) 1431655765)) 858993459) (tbA (tbU (tbM a (tbA (tbU a 1) 1431655765)) 2) 858993459)) 4)) 252645135) (tbU (tbA (tbP (tbP (tbA (tbM a (tbA (tbU a 1) 1431655765)) 858993459) (tbA (tbU (tbM a (tbA (tbU a 1) 1431655765)) 2) 858993459)) (tbU (tbP (tbA (tbM a (tbA (tbU a 1) 1431655765)) 858993459) (tbA (tbU (tbM a (tbA (tbU a 1) 1431655765)) 2) 858993459)) 4)) 252645135) 8)) 16)) kx_294_45 rfl ?_
  refine s_iadd (z := (tbP (tbP (tbA (tbP (tbP (tbA (tbM a (tbA (tbU a 1) 1431655765)) 858993459) (tbA (tbU (tbM a (tbA (tbU a 1) 1431655765)) 2) 858993459)) (tbU (tbP (tbA (tbM a (tbA (tbU a 1) 1431655765)) 858993459) (tbA (tbU (tbM a (tbA (tbU a 1) 1431655765)) 2) 858993459)) 4)) 252645135) (tbU (tbA (tbP (tbP (tbA (tbM a (tbA (tbU a 1) 1431655765)) 858993459) (tbA (tbU (tbM a (tbA (tbU a 1) 1431655765)) 2) 858993459)) (tbU (tbP (tbA (tbM a (tbA (tbU a 1) 1431655765)) 858993459) (tbA (tbU (tbM a (tbA (tbU a 1) 1431655765)) 2) 858993459)) 4)) 252645135) 8)) (tbU (tbP (tbA (tbP (tbP (tbA (tbM a (tbA (tbU a 1) 1431655765)) 858993459) (tbA (tbU (tbM a (tbA (tbU a 1) 1431655765)) 2) 858993459)) (tbU (tbP (tbA (tbM a (tbA (tbU a 1) 1431655765)) 858993459) (tbA (tbU (tbM a (tbA (tbU a 1) 1431655765)) 2) 858993459)) 4)) 252645135) (tbU (tbA (tbP (tbP (tbA (tbM a (tbA (tbU a 1) 1431655765)) 858993459) (tbA (tbU (tbM a (tbA (tbU a 1) 1431655765)) 2) 858993459)) (tbU (tbP (tbA (tbM a (tbA (tbU a 1) 1431655765)) 858993459) (tbA (tbU (tbM a (tbA (tbU a 1) 1431655765)) 2) 858993459)) 4)) 252645135) 8)) 16))) kx_294_46 rfl ?_
  refine s_istore_n kx_294_47 km_294_0 rfl ?_
  refine s_iload_n kx_294_48 rfl ?_
  refine s_bipush (v := 63) kx_294_49 (by decide) ?_
  refine s_iand (z := (tbA (tbP (tbP (tbA (tbP (tbP (tbA (tbM a (tbA (tbU a 1) 1431655765)) 858993459) (tbA (tbU (tbM a (tbA (tbU a 1) 1431655765)) 2) 858993459)) (tbU (tbP (tbA (tbM a (tbA (tbU a 1) 1431655765)) 858993459) (tbA (tbU (tbM a (tbA (tbU a 1) 1431655765)) 2) 858993459)) 4)) 252645135) (tbU (tbA (tbP (tbP (tbA (tbM a (tbA (tbU a 1) 1431655765)) 858993459) (tbA (tbU (tbM a (tbA (tbU a 1) 1431655765)) 2) 858993459)) (tbU (tbP (tbA (tbM a (tbA (tbU a 1) 1431655765)) 858993459) (tbA (tbU (tbM a (tbA (tbU a 1) 1431655765)) 2) 858993459)) 4)) 252645135) 8)) (tbU (tbP (tbA (tbP (tbP (tbA (tbM a (tbA (tbU a 1) 1431655765)) 858993459) (tbA (tbU (tbM a (tbA (tbU a 1) 1431655765)) 2) 858993459)) (tbU (tbP (tbA (tbM a (tbA (tbU a 1) 1431655765)) 858993459) (tbA (tbU (tbM a (tbA (tbU a 1) 1431655765)) 2) 858993459)) 4)) 252645135) (tbU (tbA (tbP (tbP (tbA (tbM a (tbA (tbU a 1) 1431655765)) 858993459) (tbA (tbU (tbM a (tbA (tbU a 1) 1431655765)) 2) 858993459)) (tbU (tbP (tbA (tbM a (tbA (tbU a 1) 1431655765)) 858993459) (tbA (tbU (tbM a (tbA (tbU a 1) 1431655765)) 2) 858993459)) 4)) 252645135) 8)) 16)) 63)) kx_294_51 rfl ?_
  exact s_iret kx_294_52 (Or.inl kq_294) ⟨_, rfl, rfl, ((show _ = jPop a from rfl).trans (jp_eq (by omega)))⟩
theorem g_80 {xs : Nat → Int} {Ln d : Nat} {T : List cK} {M : cM} (hT : TT T) (hI : Rng M) {t : Nat} (ht : t = 8 ∨ t = 25) (h70 : M 7 0 = ((t : Nat) : Int)) {room some : Int} {D S : cM} (hC : CR D S t M) (p0 : 0 ≤ room ∧ room ≤ 7) (p1 : room < D 0 0) : cC k_P xs Ln (d + 2) 80 [rf 7, (0, room), (0, some)] (T, M) (qF T M 0 (fun v => (v = 1 ∧ pCs D S room some = 1) ∨ (v = 0 ∧ pCs D S room some = 0))) := by
  show cP k_P xs Ln (d + 2) 80 0 [(0, rf 7), (1, (0, room)), (2, (0, some))] [] (T, M) _
  have hD := hC.2.1
  have hDr := hD.rg
  have hSW := hC.2.2.2.2
  refine s_aload_n kx_80_0 rfl ?_
  refine r_getR (k := 7) (f := 0) (k2 := t) kx_80_1 kp_80_48 (tk_7 hT) kf_5_0 (by decide) h70 ?_
  refine s_astore_n kx_80_4 km_80_3 rfl ?_
  refine s_aload_n kx_80_5 rfl ?_
  refine s_iload_n kx_80_6 rfl ?_
  refine s_iconst (v := (-1)) kx_80_7 (by decide) ?_
  refine s_callV2 (k := 7) (s1 := 3) (s2 := 0) (as := [(0, (-1)), (0, room)]) (rest := []) kx_80_8 kp_80_54 (Or.inl rfl) rfl (tk_7 hT) ki_56 kcl_56 rfl rfl (by decide) (g_56 (d := d) (room := room) (without := (-1)) hT hI ht h70 hC) (kF (fun v1 v1p => ?_))
  have hz9 : v1 = pLd D S room (-1) (D 0 1).toNat + pXs D S room some (0 : Int).toNat := v1p.2.2.trans (Int.add_zero _).symm
  refine s_istore kx_80_11 km_80_4 rfl ?_
  refine s_iconst (v := 0) kx_80_13 (by decide) ?_
  refine s_istore kx_80_14 km_80_5 rfl ?_
  have key4 : ∀ n5 : Nat, ∀ (x4_2 x5_3 : Int), (0 ≤ x4_2) → (x4_2 ≤ 144) → (0 ≤ x5_3) → (x5_3 ≤ 8) → (x4_2 ≤ 72 + 9 * x5_3) → (x5_3 ≤ D 0 1) → (x4_2 = pLd D S room (-1) (D 0 1).toNat + pXs D S room some (x5_3).toNat) → (pAll (cOk D S room some) (x5_3).toNat = 1) → (2147483647 - x5_3).toNat < n5 → cP k_P xs Ln (d + 2) 80 16 [(0, rf 7), (1, (0, room)), (2, (0, some)), (3, rf t), (4, (0, x4_2)), (5, (0, x5_3))] [] (T, M) (qF T M 0 (fun v => (v = 1 ∧ pCs D S room some = 1) ∨ (v = 0 ∧ pCs D S room some = 0))) := by
    intro n5
    induction n5 with
    | zero => intro x4_2 x5_3 i6 i7 i8 i9 i10 i11 i12 i13 hm14; exact absurd hm14 (Nat.not_lt_zero _)
    | succ n5 ih15 =>
      intro x4_2 x5_3 i6 i7 i8 i9 i10 i11 i12 i13 hm14
      refine s_iload kx_80_16 rfl ?_
      refine s_aload_n kx_80_18 rfl ?_
      refine r_getI (k := t) (f := 1) kx_80_19 kp_80_58 (tkt_0 hT ht) kf_9_1 (fun _ => rfl) (rgt_0_1 hI ht) (fun v16 v16e v16a v16b => ?_)
      have v16d : D 0 1 = v16 := ((hC).1 0 1 (by decide)).symm.trans v16e
      refine s_icmp_ge (t := 117) kx_80_22 (by decide) (fun hc17 => ?_) (fun hc17 => ?_)
      · have hal : pAll (cOk D S room some) (D 0 1).toNat = 1 := by rw [show D 0 1 = x5_3 by omega]; exact i13
        have hld : x4_2 = pWs D S room some (D 0 1).toNat := by rw [← pWs_eq]; have h9 := i12; rw [show (x5_3).toNat = (D 0 1).toNat by omega] at h9; exact h9
        refine s_iload kx_80_117 rfl ?_
        refine s_aload_n kx_80_119 rfl ?_
        refine r_getR (k := t) (f := 6) (k2 := (t + 3)) kx_80_120 kp_80_82 (tkt_0 hT ht) kf_9_6 (by decide) (rqt_6 hI ht) ?_
        refine s_iload_n kx_80_123 rfl ?_
        refine r_aldU (k := (t + 3)) kx_80_124 (tkt_3 hT ht) ⟨by omega, by omega⟩ (fun v18 v18e => ?_)
        have v18d : D 3 (room).toNat = v18 := ((hC).1 3 _ (by decide)).symm.trans v18e
        refine s_icmp_gt (t := 132) kx_80_125 (by decide) (fun hc19 => ?_) (fun hc19 => ?_)
        · refine s_iconst (v := 0) kx_80_132 (by decide) ?_
          exact s_iret kx_80_133 (Or.inr ⟨kq_80, by omega⟩) ⟨_, rfl, rfl, (Or.inr ⟨rfl, by unfold pCs; exact if_neg (by omega)⟩)⟩
        · refine s_iconst (v := 1) kx_80_128 (by decide) ?_
          refine s_goto (t := 133) kx_80_129 (by decide) ?_
          exact s_iret kx_80_133 (Or.inr ⟨kq_80, by omega⟩) ⟨_, rfl, rfl, (Or.inl ⟨rfl, by unfold pCs; exact if_pos (by omega)⟩)⟩
      · refine s_iload_n kx_80_25 rfl ?_
        refine s_iload kx_80_26 rfl ?_
        refine s_ishr (z := (tbS some x5_3)) kx_80_28 rfl ?_
        refine s_iconst (v := 1) kx_80_29 (by decide) ?_
        refine s_iand (z := (tbA (tbS some x5_3) 1)) kx_80_30 rfl ?_
        have hb22 := tbA_1 (tbS some x5_3)
        refine s_if_ne (t := 37) kx_80_31 (by decide) (fun hc23 => ?_) (fun hc23 => ?_)
        · refine s_aload_n kx_80_37 rfl ?_
          refine r_getR (k := t) (f := 12) (k2 := (t + 9)) kx_80_38 kp_80_63 (tkt_0 hT ht) kf_9_12 (by decide) (rqt_12 hI ht) ?_
          refine s_iload kx_80_41 rfl ?_
          refine r_aldU (k := (t + 9)) kx_80_43 (tkt_9 hT ht) ⟨by omega, by omega⟩ (fun v24 v24e => ?_)
          have v24d : D 9 (x5_3).toNat = v24 := ((hC).1 9 _ (by decide)).symm.trans v24e
          have v24w := hD.1.pt (p := x5_3) ⟨by omega, by omega⟩
          rw [v24d] at v24w
          refine s_istore kx_80_44 km_80_6 rfl ?_
          refine s_aload_n kx_80_46 rfl ?_
          refine s_iload kx_80_47 rfl ?_
          refine s_callV2 (k := 7) (s1 := 2) (s2 := 0) (as := [(0, x5_3)]) (rest := []) kx_80_49 kp_80_66 (Or.inl rfl) rfl (tk_7 hT) ki_45 kcl_45 rfl rfl (by decide) (g_45 (d := d + 1) (chair := x5_3) hT hI ht h70 hC (by omega) (by omega)) (kF (fun v25 v25p => ?_))
          refine s_if_ne (t := 70) kx_80_52 (by decide) (fun hc26 => ?_) (fun hc26 => ?_)
          · replace v25p := v25p.resolve_right (by omega)
            refine s_iconst (v := 0) kx_80_70 (by decide) ?_
            exact s_iret kx_80_71 (Or.inr ⟨kq_80, by omega⟩) ⟨_, rfl, rfl, (Or.inr ⟨rfl, by have h9 := pAll_0 (c := cOk D S room some) (x := x5_3) (by omega) (by unfold cOk; rw [v24d]; rw [if_pos (by omega), if_neg (by omega)]; decide) (D 0 1).toNat (by omega); unfold pCs; exact if_neg (by omega)⟩)⟩
          · replace v25p := v25p.resolve_left (by omega)
            refine s_iload kx_80_55 rfl ?_
            refine s_iconst (v := (-1)) kx_80_57 (by decide) ?_
            refine s_icmp_eq (t := 72) kx_80_58 (by decide) (fun hc27 => ?_) (fun hc27 => ?_)
            · refine s_aload_n kx_80_72 rfl ?_
              refine s_iload kx_80_73 rfl ?_
              refine s_callV2 (k := 7) (s1 := 2) (s2 := 0) (as := [(0, x5_3)]) (rest := []) kx_80_75 kp_80_70 (Or.inl rfl) rfl (tk_7 hT) ki_44 kcl_44 rfl rfl (by decide) (g_44 (d := d + 1) (chair := x5_3) hT hI ht h70 hC (by omega) (by omega)) (kF (fun v28 v28p => ?_))
              refine s_iload_n kx_80_78 rfl ?_
              refine s_icmp_eq (t := 111) kx_80_79 (by decide) (fun hc29 => ?_) (fun hc29 => ?_)
              · refine r_iinc kx_80_111 rfl km_80_5 (by decide) ⟨by omega, by omega⟩ rfl ?_
                refine s_goto (t := 16) kx_80_114 (by decide) ?_
                exact cP.wk (lS1 rfl (lS1 rfl (lS1 rfl (lS1 rfl (lS1 rfl (lS1 rfl lS0)))))) (ih15 x4_2 (x5_3 + 1) (by omega) (by omega) (by omega) (by omega) (by omega) (by omega) (pXs_0 i12 (by omega) (by omega)) (pAll_S i13 (by omega) (by unfold cOk; rw [v24d]; first | exact if_neg (by omega) | (rw [if_pos (by omega)]; exact if_pos (by omega)))) (by omega))
              · refine s_aload_n kx_80_82 rfl ?_
                refine s_iload kx_80_83 rfl ?_
                refine s_callV2 (k := t) (s1 := 2) (s2 := 0) (as := [(0, x5_3)]) (rest := []) kx_80_85 kp_80_73 (Or.inl rfl) rfl (tkt_0 hT ht) ki_116 kcl_116 rfl rfl (by decide) (g_116 (d := d) (chair := x5_3) hT hI ht h70 hC (by omega) (by omega)) (kF (fun v30 v30p => ?_))
                refine s_aload_n kx_80_88 rfl ?_
                refine r_getR (k := t) (f := 5) (k2 := (t + 2)) kx_80_89 kp_80_76 (tkt_0 hT ht) kf_9_5 (by decide) (rqt_5 hI ht) ?_
                refine s_iload_n kx_80_92 rfl ?_
                refine r_aldU (k := (t + 2)) kx_80_93 (tkt_2 hT ht) ⟨by omega, by omega⟩ (fun v31 v31e => ?_)
                have v31d : D 2 (room).toNat = v31 := ((hC).1 2 _ (by decide)).symm.trans v31e
                refine s_icmp_le (t := 99) kx_80_94 (by decide) (fun hc32 => ?_) (fun hc32 => ?_)
                · refine s_iload kx_80_99 rfl ?_
                  refine s_aload_n kx_80_101 rfl ?_
                  refine r_getR (k := t) (f := 11) (k2 := (t + 8)) kx_80_102 kp_80_79 (tkt_0 hT ht) kf_9_11 (by decide) (rqt_11 hI ht) ?_
                  refine s_iload kx_80_105 rfl ?_
                  refine r_aldU (k := (t + 8)) kx_80_107 (tkt_8 hT ht) ⟨by omega, by omega⟩ (fun v33 v33e => ?_)
                  have v33d : D 8 (x5_3).toNat = v33 := ((hC).1 8 _ (by decide)).symm.trans v33e
                  have v33w := hD.1.wd (p := x5_3) ⟨by omega, by omega⟩
                  rw [v33d] at v33w
                  refine r_add kx_80_108 ⟨by omega, by omega⟩ ?_
                  refine s_istore kx_80_109 km_80_4 rfl ?_
                  refine r_iinc kx_80_111 rfl km_80_5 (by decide) ⟨by omega, by omega⟩ rfl ?_
                  refine s_goto (t := 16) kx_80_114 (by decide) ?_
                  exact cP.wk (lS1 rfl (lS1 rfl (lS1 rfl (lS1 rfl (lS1 rfl (lS1 rfl lS0)))))) (ih15 (x4_2 + v33) (x5_3 + 1) (by omega) (by omega) (by omega) (by omega) (by omega) (by omega) (pXs_S i12 (by omega) (Or.inl ⟨by omega, v33d.symm⟩)) (pAll_S i13 (by omega) (by unfold cOk; rw [v24d]; first | exact if_neg (by omega) | (rw [if_pos (by omega)]; exact if_pos (by omega)))) (by omega))
                · refine s_iconst (v := 0) kx_80_97 (by decide) ?_
                  exact s_iret kx_80_98 (Or.inr ⟨kq_80, by omega⟩) ⟨_, rfl, rfl, (Or.inr ⟨rfl, by have h9 := pAll_0 (c := cOk D S room some) (x := x5_3) (by omega) (by unfold cOk; rw [v24d]; rw [if_pos (by omega), if_neg (by omega)]; decide) (D 0 1).toNat (by omega); unfold pCs; exact if_neg (by omega)⟩)⟩
            · refine s_iload_n kx_80_61 rfl ?_
              refine s_iload kx_80_62 rfl ?_
              refine s_ishr (z := (tbS some v24)) kx_80_64 rfl ?_
              refine s_iconst (v := 1) kx_80_65 (by decide) ?_
              refine s_iand (z := (tbA (tbS some v24) 1)) kx_80_66 rfl ?_
              have hb36 := tbA_1 (tbS some v24)
              refine s_if_ne (t := 72) kx_80_67 (by decide) (fun hc37 => ?_) (fun hc37 => ?_)
              · refine s_aload_n kx_80_72 rfl ?_
                refine s_iload kx_80_73 rfl ?_
                refine s_callV2 (k := 7) (s1 := 2) (s2 := 0) (as := [(0, x5_3)]) (rest := []) kx_80_75 kp_80_70 (Or.inl rfl) rfl (tk_7 hT) ki_44 kcl_44 rfl rfl (by decide) (g_44 (d := d + 1) (chair := x5_3) hT hI ht h70 hC (by omega) (by omega)) (kF (fun v38 v38p => ?_))
                refine s_iload_n kx_80_78 rfl ?_
                refine s_icmp_eq (t := 111) kx_80_79 (by decide) (fun hc39 => ?_) (fun hc39 => ?_)
                · refine r_iinc kx_80_111 rfl km_80_5 (by decide) ⟨by omega, by omega⟩ rfl ?_
                  refine s_goto (t := 16) kx_80_114 (by decide) ?_
                  exact cP.wk (lS1 rfl (lS1 rfl (lS1 rfl (lS1 rfl (lS1 rfl (lS1 rfl lS0)))))) (ih15 x4_2 (x5_3 + 1) (by omega) (by omega) (by omega) (by omega) (by omega) (by omega) (pXs_0 i12 (by omega) (by omega)) (pAll_S i13 (by omega) (by unfold cOk; rw [v24d]; first | exact if_neg (by omega) | (rw [if_pos (by omega)]; exact if_pos (by omega)))) (by omega))
                · refine s_aload_n kx_80_82 rfl ?_
                  refine s_iload kx_80_83 rfl ?_
                  refine s_callV2 (k := t) (s1 := 2) (s2 := 0) (as := [(0, x5_3)]) (rest := []) kx_80_85 kp_80_73 (Or.inl rfl) rfl (tkt_0 hT ht) ki_116 kcl_116 rfl rfl (by decide) (g_116 (d := d) (chair := x5_3) hT hI ht h70 hC (by omega) (by omega)) (kF (fun v40 v40p => ?_))
                  refine s_aload_n kx_80_88 rfl ?_
                  refine r_getR (k := t) (f := 5) (k2 := (t + 2)) kx_80_89 kp_80_76 (tkt_0 hT ht) kf_9_5 (by decide) (rqt_5 hI ht) ?_
                  refine s_iload_n kx_80_92 rfl ?_
                  refine r_aldU (k := (t + 2)) kx_80_93 (tkt_2 hT ht) ⟨by omega, by omega⟩ (fun v41 v41e => ?_)
                  have v41d : D 2 (room).toNat = v41 := ((hC).1 2 _ (by decide)).symm.trans v41e
                  refine s_icmp_le (t := 99) kx_80_94 (by decide) (fun hc42 => ?_) (fun hc42 => ?_)
                  · refine s_iload kx_80_99 rfl ?_
                    refine s_aload_n kx_80_101 rfl ?_
                    refine r_getR (k := t) (f := 11) (k2 := (t + 8)) kx_80_102 kp_80_79 (tkt_0 hT ht) kf_9_11 (by decide) (rqt_11 hI ht) ?_
                    refine s_iload kx_80_105 rfl ?_
                    refine r_aldU (k := (t + 8)) kx_80_107 (tkt_8 hT ht) ⟨by omega, by omega⟩ (fun v43 v43e => ?_)
                    have v43d : D 8 (x5_3).toNat = v43 := ((hC).1 8 _ (by decide)).symm.trans v43e
                    have v43w := hD.1.wd (p := x5_3) ⟨by omega, by omega⟩
                    rw [v43d] at v43w
                    refine r_add kx_80_108 ⟨by omega, by omega⟩ ?_
                    refine s_istore kx_80_109 km_80_4 rfl ?_
                    refine r_iinc kx_80_111 rfl km_80_5 (by decide) ⟨by omega, by omega⟩ rfl ?_
                    refine s_goto (t := 16) kx_80_114 (by decide) ?_
                    exact cP.wk (lS1 rfl (lS1 rfl (lS1 rfl (lS1 rfl (lS1 rfl (lS1 rfl lS0)))))) (ih15 (x4_2 + v43) (x5_3 + 1) (by omega) (by omega) (by omega) (by omega) (by omega) (by omega) (pXs_S i12 (by omega) (Or.inl ⟨by omega, v43d.symm⟩)) (pAll_S i13 (by omega) (by unfold cOk; rw [v24d]; first | exact if_neg (by omega) | (rw [if_pos (by omega)]; exact if_pos (by omega)))) (by omega))
                  · refine s_iconst (v := 0) kx_80_97 (by decide) ?_
                    exact s_iret kx_80_98 (Or.inr ⟨kq_80, by omega⟩) ⟨_, rfl, rfl, (Or.inr ⟨rfl, by have h9 := pAll_0 (c := cOk D S room some) (x := x5_3) (by omega) (by unfold cOk; rw [v24d]; rw [if_pos (by omega), if_neg (by omega)]; decide) (D 0 1).toNat (by omega); unfold pCs; exact if_neg (by omega)⟩)⟩
              · refine s_iconst (v := 0) kx_80_70 (by decide) ?_
                exact s_iret kx_80_71 (Or.inr ⟨kq_80, by omega⟩) ⟨_, rfl, rfl, (Or.inr ⟨rfl, by have h9 := pAll_0 (c := cOk D S room some) (x := x5_3) (by omega) (by unfold cOk; rw [v24d]; rw [if_pos (by omega), if_neg (by omega)]; decide) (D 0 1).toNat (by omega); unfold pCs; exact if_neg (by omega)⟩)⟩
        · refine s_goto (t := 111) kx_80_34 (by decide) ?_
          refine r_iinc kx_80_111 rfl km_80_5 (by decide) ⟨by omega, by omega⟩ rfl ?_
          refine s_goto (t := 16) kx_80_114 (by decide) ?_
          exact cP.wk (lS1 rfl (lS1 rfl (lS1 rfl (lS1 rfl (lS1 rfl (lS1 rfl lS0)))))) (ih15 x4_2 (x5_3 + 1) (by omega) (by omega) (by omega) (by omega) (by omega) (by omega) (pXs_0 i12 (by omega) (by omega)) (pAll_S i13 (by omega) (by unfold cOk; first | exact if_neg (by omega) | (rw [if_pos (by omega)]; exact if_pos (by omega)))) (by omega))
  exact cP.wk (lS1 rfl (lS1 rfl (lS1 rfl (lS1 rfl (lS1 rfl (lS1 rfl lS0)))))) (key4 _ v1 0 (by omega) (by omega) (by omega) (by omega) (by omega) (by omega) hz9 rfl (Nat.lt_succ_self _))
theorem g_79 {xs : Nat → Int} {Ln d : Nat} {T : List cK} {M : cM} (hT : TT T) (hI : Rng M) {t : Nat} (ht : t = 8 ∨ t = 25) (h70 : M 7 0 = ((t : Nat) : Int)) {room people : Int} {D S : cM} (hC : CR D S t M) (p0 : 0 ≤ room ∧ room ≤ 7) (p1 : 0 ≤ people ∧ people ≤ 255) (p2 : room < D 0 0) : cC k_P xs Ln (d + 3) 79 [rf 54, rf 7, (0, room), (0, people)] (T, M) (qF T M 0 (fun v => v = pStt D S room people people.toNat)) := by
  show cP k_P xs Ln (d + 3) 79 0 [(0, rf 54), (1, rf 7), (2, (0, room)), (3, (0, people))] [] (T, M) _
  have hD := hC.2.1
  have hDr := hD.rg
  have hSW := hC.2.2.2.2
  refine s_iconst (v := 0) kx_79_0 (by decide) ?_
  refine s_istore kx_79_1 km_79_4 rfl ?_
  refine s_iconst (v := 1) kx_79_3 (by decide) ?_
  refine s_istore kx_79_4 km_79_5 rfl ?_
  have key3 : ∀ n4 : Nat, ∀ (x4_1 x5_2 : Int), (0 ≤ x4_1) → (x4_1 ≤ 255) → (1 ≤ x5_2) → (x5_2 ≤ 256) → (x5_2 ≤ people + 1) → (x4_1 = pStt D S room people (x5_2 - 1).toNat) → (2147483647 - x5_2).toNat < n4 → cP k_P xs Ln (d + 3) 79 6 [(1, rf 7), (2, (0, room)), (3, (0, people)), (4, (0, x4_1)), (5, (0, x5_2))] [] (T, M) (qF T M 0 (fun v => v = pStt D S room people people.toNat)) := by
    intro n4
    induction n4 with
    | zero => intro x4_1 x5_2 i5 i6 i7 i8 i9 i10 hm11; exact absurd hm11 (Nat.not_lt_zero _)
    | succ n4 ih12 =>
      intro x4_1 x5_2 i5 i6 i7 i8 i9 i10 hm11
      refine s_iload kx_79_6 rfl ?_
      refine s_iload_n kx_79_8 rfl ?_
      refine s_icmp_gt (t := 66) kx_79_9 (by decide) (fun hc13 => ?_) (fun hc13 => ?_)
      · refine s_iload kx_79_66 rfl ?_
        exact s_iret kx_79_68 (Or.inl kq_79) ⟨_, rfl, rfl, (by rw [show people = x5_2 - 1 by omega]; rw [show x5_2 - 1 = people by omega]; have h9 := i10; rw [show x5_2 - 1 = people by omega] at h9; exact h9)⟩
      · refine s_iload kx_79_12 rfl ?_
        refine s_iload_n kx_79_14 rfl ?_
        refine s_iconst (v := (-1)) kx_79_15 (by decide) ?_
        refine s_ixor (z := (tbX people (-1))) kx_79_16 rfl ?_
        refine s_iand (z := (tbA x5_2 (tbX people (-1)))) kx_79_17 rfl ?_
        refine s_if_ne (t := 25) kx_79_18 (by decide) (fun hc16 => ?_) (fun hc16 => ?_)
        · refine s_iconst (v := 0) kx_79_25 (by decide) ?_
          refine s_istore kx_79_26 km_79_6 rfl ?_
          refine s_iload kx_79_28 rfl ?_
          refine s_if_eq (t := 60) kx_79_30 (by decide) (fun hc17 => ?_) (fun hc17 => absurd hc17 (by decide))
          refine r_iinc kx_79_60 rfl km_79_5 (by decide) ⟨by omega, by omega⟩ rfl ?_
          refine s_goto (t := 6) kx_79_63 (by decide) ?_
          exact cP.wk (lS1 rfl (lS1 rfl (lS1 rfl (lS1 rfl (lS1 rfl lS0))))) (ih12 x4_1 (x5_2 + 1) (by omega) (by omega) (by omega) (by omega) (by omega) (pStt_S i10 (by omega) (Or.inr (by unfold pSub; omega))) (by omega))
        · refine s_iconst (v := 1) kx_79_21 (by decide) ?_
          refine s_goto (t := 26) kx_79_22 (by decide) ?_
          refine s_istore kx_79_26 km_79_6 rfl ?_
          refine s_iload kx_79_28 rfl ?_
          refine s_if_eq (t := 60) kx_79_30 (by decide) (fun hc18 => absurd hc18 (by decide)) (fun hc18 => ?_)
          refine s_iload kx_79_33 rfl ?_
          refine s_callS2 (s1 := 1) (s2 := 0) (as := [(0, x5_2)]) (rest := []) kx_79_35 kp_79_38 rfl kcl_294 rfl rfl (by decide) (g_294 (d := d + 2) (a := x5_2) hT hI (by omega)) (kF (fun v19 v19p => ?_))
          refine s_iload kx_79_38 rfl ?_
          refine s_callS2 (s1 := 1) (s2 := 1) (as := [(0, x4_1)]) (rest := [(0, v19)]) kx_79_40 kp_79_38 rfl kcl_294 rfl rfl (by decide) (g_294 (d := d + 2) (a := x4_1) hT hI (by omega)) (kF (fun v20 v20p => ?_))
          refine s_icmp_le (t := 60) kx_79_43 (by decide) (fun hc21 => ?_) (fun hc21 => ?_)
          · refine r_iinc kx_79_60 rfl km_79_5 (by decide) ⟨by omega, by omega⟩ rfl ?_
            refine s_goto (t := 6) kx_79_63 (by decide) ?_
            exact cP.wk (lS1 rfl (lS1 rfl (lS1 rfl (lS1 rfl (lS1 rfl lS0))))) (ih12 x4_1 (x5_2 + 1) (by omega) (by omega) (by omega) (by omega) (by omega) (pStt_S i10 (by omega) (Or.inr (by unfold pSub; omega))) (by omega))
          · refine s_aload_n kx_79_46 rfl ?_
            refine s_iload_n kx_79_47 rfl ?_
            refine s_iload kx_79_48 rfl ?_
            refine s_callS2 (s1 := 3) (s2 := 0) (as := [(0, x5_2), (0, room), rf 7]) (rest := []) kx_79_50 kp_79_44 rfl kcl_80 rfl rfl (by decide) (g_80 (d := d) (room := room) (some := x5_2) hT hI ht h70 hC (by omega) (by omega)) (kF (fun v22 v22p => ?_))
            refine s_if_eq (t := 60) kx_79_53 (by decide) (fun hc23 => ?_) (fun hc23 => ?_)
            · replace v22p := v22p.resolve_left (by omega)
              refine r_iinc kx_79_60 rfl km_79_5 (by decide) ⟨by omega, by omega⟩ rfl ?_
              refine s_goto (t := 6) kx_79_63 (by decide) ?_
              exact cP.wk (lS1 rfl (lS1 rfl (lS1 rfl (lS1 rfl (lS1 rfl lS0))))) (ih12 x4_1 (x5_2 + 1) (by omega) (by omega) (by omega) (by omega) (by omega) (pStt_S i10 (by omega) (Or.inr (by unfold pSub; omega))) (by omega))
            · replace v22p := v22p.resolve_right (by omega)
              refine s_iload kx_79_56 rfl ?_
              refine s_istore kx_79_58 km_79_4 rfl ?_
              refine r_iinc kx_79_60 rfl km_79_5 (by decide) ⟨by omega, by omega⟩ rfl ?_
              refine s_goto (t := 6) kx_79_63 (by decide) ?_
              exact cP.wk (lS1 rfl (lS1 rfl (lS1 rfl (lS1 rfl (lS1 rfl lS0))))) (ih12 x5_2 (x5_2 + 1) (by omega) (by omega) (by omega) (by omega) (by omega) (pStt_S i10 (by omega) (Or.inl (by unfold pSub; omega))) (by omega))
  exact cP.wk (lS1 rfl (lS1 rfl (lS1 rfl (lS1 rfl (lS1 rfl lS0))))) (key3 _ 0 1 (by omega) (by omega) (by omega) (by omega) (by omega) rfl (Nat.lt_succ_self _))
theorem g_158 {xs : Nat → Int} {Ln d : Nat} {T : List cK} {M : cM} (hT : TT T) (hI : Rng M) {t : Nat} (ht : t = 8 ∨ t = 25) (h70 : M 7 0 = ((t : Nat) : Int)) {room people : Int} {D S : cM} (hC : CR D S t M) : cC k_P xs Ln (d + 4) 158 [rf 0, (0, room), (0, people)] (T, M) (qF T M 0 (fun v => v = pSe D S room people)) := by
  show cP k_P xs Ln (d + 4) 158 0 [(0, rf 0), (1, (0, room)), (2, (0, people))] [] (T, M) _
  have hD := hC.2.1
  have hDr := hD.rg
  have hSW := hC.2.2.2.2
  refine s_aload_n kx_158_0 rfl ?_
  refine r_getR (k := 0) (f := 2) (k2 := 7) kx_158_1 kp_158_26 (tk_0 hT) kf_11_2 (by decide) (rq_0_2 hI) ?_
  refine r_getR (k := 7) (f := 0) (k2 := t) kx_158_4 kp_158_120 (tk_7 hT) kf_5_0 (by decide) h70 ?_
  refine s_iload_n kx_158_7 rfl ?_
  refine s_callV2 (k := t) (s1 := 2) (s2 := 0) (as := [(0, room)]) (rest := []) kx_158_8 kp_158_153 (Or.inl rfl) rfl (tkt_0 hT ht) ki_106 kcl_106 rfl rfl (by decide) (g_106 (d := d + 3) (room := room) hT hI ht h70 hC) (kF (fun v1 v1p => ?_))
  refine s_if_eq (t := 34) kx_158_11 (by decide) (fun hc2 => ?_) (fun hc2 => ?_)
  · replace v1p := v1p.resolve_left (by omega)
    refine s_iconst (v := (-1)) kx_158_34 (by decide) ?_
    exact s_iret kx_158_35 (Or.inl kq_158) ⟨_, rfl, rfl, (by unfold pSe; rw [if_neg (by omega)])⟩
  · replace v1p := v1p.resolve_right (by omega)
    refine s_iload_n kx_158_14 rfl ?_
    refine s_if_lt (t := 34) kx_158_15 (by decide) (fun hc3 => ?_) (fun hc3 => ?_)
    · refine s_iconst (v := (-1)) kx_158_34 (by decide) ?_
      exact s_iret kx_158_35 (Or.inl kq_158) ⟨_, rfl, rfl, (by unfold pSe; rw [if_neg (by omega)])⟩
    · refine s_iload_n kx_158_18 rfl ?_
      refine s_iconst (v := 1) kx_158_19 (by decide) ?_
      refine s_aload_n kx_158_20 rfl ?_
      refine r_getR (k := 0) (f := 2) (k2 := 7) kx_158_21 kp_158_26 (tk_0 hT) kf_11_2 (by decide) (rq_0_2 hI) ?_
      refine r_getR (k := 7) (f := 0) (k2 := t) kx_158_24 kp_158_120 (tk_7 hT) kf_5_0 (by decide) h70 ?_
      refine r_getI (k := t) (f := 1) kx_158_27 kp_158_128 (tkt_0 hT ht) kf_9_1 (fun _ => rfl) (rgt_0_1 hI ht) (fun v4 v4e v4a v4b => ?_)
      have v4d : D 0 1 = v4 := ((hC).1 0 1 (by decide)).symm.trans v4e
      refine s_ishl (z := (tbL 1 v4)) kx_158_30 rfl ?_
      have hpw := tbL_pw (n := v4) (by omega)
      have hpd : tbL 1 (D 0 1) = tbL 1 v4 := by rw [v4d]
      refine s_icmp_lt (t := 36) kx_158_31 (by decide) (fun hc6 => ?_) (fun hc6 => ?_)
      · refine s_aload_n kx_158_36 rfl ?_
        refine r_getR (k := 0) (f := 6) (k2 := 54) kx_158_37 kp_158_54 (tk_0 hT) kf_11_6 (by decide) (rq_0_6 hI) ?_
        refine s_aload_n kx_158_40 rfl ?_
        refine r_getR (k := 0) (f := 2) (k2 := 7) kx_158_41 kp_158_26 (tk_0 hT) kf_11_2 (by decide) (rq_0_2 hI) ?_
        refine s_iload_n kx_158_44 rfl ?_
        refine s_iload_n kx_158_45 rfl ?_
        refine s_callV2 (k := 54) (s1 := 4) (s2 := 0) (as := [(0, people), (0, room), rf 7]) (rest := []) kx_158_46 kp_158_297 (Or.inl rfl) rfl (tk_54 hT) ki_79 kcl_79 rfl rfl (by decide) (g_79 (d := d) (room := room) (people := people) hT hI ht h70 hC (by omega) (by omega) (by omega)) (kF (fun v7 v7p => ?_))
        exact s_iret kx_158_49 (Or.inl kq_158) ⟨_, rfl, rfl, (by unfold pSe; rw [if_pos (by omega)]; exact v7p)⟩
      · refine s_iconst (v := (-1)) kx_158_34 (by decide) ?_
        exact s_iret kx_158_35 (Or.inl kq_158) ⟨_, rfl, rfl, (by unfold pSe; rw [if_neg (by omega)])⟩
