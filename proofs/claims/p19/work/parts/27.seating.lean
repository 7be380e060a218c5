theorem kx_80_0 : x_code k_P 80 0 = some (.aload_n 0, 1) := by decide +kernel
theorem kx_80_1 : x_code k_P 80 1 = some (.getfield 48, 3) := by decide +kernel
theorem kp_80_48 : x_pool k_P 80 48 = (1, 5, 0) := by decide +kernel
theorem kx_80_4 : x_code k_P 80 4 = some (.astore_n 3, 1) := by decide +kernel
theorem km_80_3 : 3 < x_maxL k_P 80 := by decide +kernel
theorem kx_80_5 : x_code k_P 80 5 = some (.aload_n 0, 1) := by decide +kernel
theorem kx_80_6 : x_code k_P 80 6 = some (.iload_n 1, 1) := by decide +kernel
theorem kx_80_7 : x_code k_P 80 7 = some (.iconst (-1), 1) := by decide +kernel
theorem kx_80_8 : x_code k_P 80 8 = some (.invokevirtual 54, 3) := by decide +kernel
theorem kp_80_54 : x_pool k_P 80 54 = (2, 56, 2) := by decide +kernel
theorem kx_80_11 : x_code k_P 80 11 = some (.istore 4, 2) := by decide +kernel
theorem km_80_4 : 4 < x_maxL k_P 80 := by decide +kernel
theorem kx_80_13 : x_code k_P 80 13 = some (.iconst 0, 1) := by decide +kernel
theorem kx_80_14 : x_code k_P 80 14 = some (.istore 5, 2) := by decide +kernel
theorem km_80_5 : 5 < x_maxL k_P 80 := by decide +kernel
theorem kx_80_16 : x_code k_P 80 16 = some (.iload 5, 2) := by decide +kernel
theorem kx_80_18 : x_code k_P 80 18 = some (.aload_n 3, 1) := by decide +kernel
theorem kx_80_19 : x_code k_P 80 19 = some (.getfield 58, 3) := by decide +kernel
theorem kp_80_58 : x_pool k_P 80 58 = (1, 9, 1) := by decide +kernel
theorem kx_80_22 : x_code k_P 80 22 = some (.if_icmp .ge 95, 3) := by decide +kernel
theorem kx_80_117 : x_code k_P 80 117 = some (.iload 4, 2) := by decide +kernel
theorem kx_80_119 : x_code k_P 80 119 = some (.aload_n 3, 1) := by decide +kernel
theorem kx_80_120 : x_code k_P 80 120 = some (.getfield 82, 3) := by decide +kernel
theorem kp_80_82 : x_pool k_P 80 82 = (1, 9, 6) := by decide +kernel
theorem kx_80_123 : x_code k_P 80 123 = some (.iload_n 1, 1) := by decide +kernel
theorem kx_80_124 : x_code k_P 80 124 = some (.iaload, 1) := by decide +kernel
theorem kx_80_125 : x_code k_P 80 125 = some (.if_icmp .gt 7, 3) := by decide +kernel
theorem kx_80_132 : x_code k_P 80 132 = some (.iconst 0, 1) := by decide +kernel
theorem kx_80_133 : x_code k_P 80 133 = some (.ireturn, 1) := by decide +kernel
theorem kq_80 : x_retk k_P 80 = 2 := by decide +kernel
theorem kx_80_128 : x_code k_P 80 128 = some (.iconst 1, 1) := by decide +kernel
theorem kx_80_129 : x_code k_P 80 129 = some (.goto 4, 3) := by decide +kernel
theorem kx_80_25 : x_code k_P 80 25 = some (.iload_n 2, 1) := by decide +kernel
theorem kx_80_26 : x_code k_P 80 26 = some (.iload 5, 2) := by decide +kernel
theorem kx_80_28 : x_code k_P 80 28 = some (.ishr, 1) := by decide +kernel
theorem kx_80_29 : x_code k_P 80 29 = some (.iconst 1, 1) := by decide +kernel
theorem kx_80_30 : x_code k_P 80 30 = some (.iand, 1) := by decide +kernel
theorem kx_80_31 : x_code k_P 80 31 = some (.ifCond .ne 6, 3) := by decide +kernel
theorem kx_80_37 : x_code k_P 80 37 = some (.aload_n 3, 1) := by decide +kernel
theorem kx_80_38 : x_code k_P 80 38 = some (.getfield 63, 3) := by decide +kernel
theorem kp_80_63 : x_pool k_P 80 63 = (1, 9, 12) := by decide +kernel
theorem kx_80_41 : x_code k_P 80 41 = some (.iload 5, 2) := by decide +kernel
theorem kx_80_43 : x_code k_P 80 43 = some (.iaload, 1) := by decide +kernel
theorem kx_80_44 : x_code k_P 80 44 = some (.istore 6, 2) := by decide +kernel
theorem km_80_6 : 6 < x_maxL k_P 80 := by decide +kernel
theorem kx_80_46 : x_code k_P 80 46 = some (.aload_n 0, 1) := by decide +kernel
theorem kx_80_47 : x_code k_P 80 47 = some (.iload 5, 2) := by decide +kernel
theorem kx_80_49 : x_code k_P 80 49 = some (.invokevirtual 66, 3) := by decide +kernel
theorem kp_80_66 : x_pool k_P 80 66 = (2, 45, 1) := by decide +kernel
theorem kx_80_52 : x_code k_P 80 52 = some (.ifCond .ne 18, 3) := by decide +kernel
theorem kx_80_70 : x_code k_P 80 70 = some (.iconst 0, 1) := by decide +kernel
theorem kx_80_71 : x_code k_P 80 71 = some (.ireturn, 1) := by decide +kernel
theorem kx_80_55 : x_code k_P 80 55 = some (.iload 6, 2) := by decide +kernel
theorem kx_80_57 : x_code k_P 80 57 = some (.iconst (-1), 1) := by decide +kernel
theorem kx_80_58 : x_code k_P 80 58 = some (.if_icmp .eq 14, 3) := by decide +kernel
theorem kx_80_72 : x_code k_P 80 72 = some (.aload_n 0, 1) := by decide +kernel
theorem kx_80_73 : x_code k_P 80 73 = some (.iload 5, 2) := by decide +kernel
theorem kx_80_75 : x_code k_P 80 75 = some (.invokevirtual 70, 3) := by decide +kernel
theorem kp_80_70 : x_pool k_P 80 70 = (2, 44, 1) := by decide +kernel
theorem kx_80_78 : x_code k_P 80 78 = some (.iload_n 1, 1) := by decide +kernel
theorem kx_80_79 : x_code k_P 80 79 = some (.if_icmp .eq 32, 3) := by decide +kernel
theorem kx_80_111 : x_code k_P 80 111 = some (.iinc 5 1, 3) := by decide +kernel
theorem kx_80_114 : x_code k_P 80 114 = some (.goto (-98), 3) := by decide +kernel
theorem kx_80_82 : x_code k_P 80 82 = some (.aload_n 3, 1) := by decide +kernel
theorem kx_80_83 : x_code k_P 80 83 = some (.iload 5, 2) := by decide +kernel
theorem kx_80_85 : x_code k_P 80 85 = some (.invokevirtual 73, 3) := by decide +kernel
theorem kp_80_73 : x_pool k_P 80 73 = (2, 116, 1) := by decide +kernel
theorem kx_80_88 : x_code k_P 80 88 = some (.aload_n 3, 1) := by decide +kernel
theorem kx_80_89 : x_code k_P 80 89 = some (.getfield 76, 3) := by decide +kernel
theorem kp_80_76 : x_pool k_P 80 76 = (1, 9, 5) := by decide +kernel
theorem kx_80_92 : x_code k_P 80 92 = some (.iload_n 1, 1) := by decide +kernel
theorem kx_80_93 : x_code k_P 80 93 = some (.iaload, 1) := by decide +kernel
theorem kx_80_94 : x_code k_P 80 94 = some (.if_icmp .le 5, 3) := by decide +kernel
theorem kx_80_99 : x_code k_P 80 99 = some (.iload 4, 2) := by decide +kernel
theorem kx_80_101 : x_code k_P 80 101 = some (.aload_n 3, 1) := by decide +kernel
theorem kx_80_102 : x_code k_P 80 102 = some (.getfield 79, 3) := by decide +kernel
theorem kp_80_79 : x_pool k_P 80 79 = (1, 9, 11) := by decide +kernel
theorem kx_80_105 : x_code k_P 80 105 = some (.iload 5, 2) := by decide +kernel
theorem kx_80_107 : x_code k_P 80 107 = some (.iaload, 1) := by decide +kernel
theorem kx_80_108 : x_code k_P 80 108 = some (.iadd, 1) := by decide +kernel
theorem kx_80_109 : x_code k_P 80 109 = some (.istore 4, 2) := by decide +kernel
theorem kx_80_97 : x_code k_P 80 97 = some (.iconst 0, 1) := by decide +kernel
theorem kx_80_98 : x_code k_P 80 98 = some (.ireturn, 1) := by decide +kernel
theorem kx_80_61 : x_code k_P 80 61 = some (.iload_n 2, 1) := by decide +kernel
theorem kx_80_62 : x_code k_P 80 62 = some (.iload 6, 2) := by decide +kernel
theorem kx_80_64 : x_code k_P 80 64 = some (.ishr, 1) := by decide +kernel
theorem kx_80_65 : x_code k_P 80 65 = some (.iconst 1, 1) := by decide +kernel
theorem kx_80_66 : x_code k_P 80 66 = some (.iand, 1) := by decide +kernel
theorem kx_80_67 : x_code k_P 80 67 = some (.ifCond .ne 5, 3) := by decide +kernel
theorem kx_80_34 : x_code k_P 80 34 = some (.goto 77, 3) := by decide +kernel
theorem m_80 {xs : Nat → Int} {Ln d : Nat} {T : List cK} {M : cM} (hT : TT T) (hI : Rng M) {t : Nat} (ht : t = 8 ∨ t = 25) (h70 : M 7 0 = ((t : Nat) : Int)) {room some : Int} (p0 : 0 ≤ room ∧ room ≤ 7) : cC k_P xs Ln (d + 2) 80 [rf 7, (0, room), (0, some)] (T, M) (qF T M 0 (fun v => 0 ≤ v ∧ v ≤ 1)) := by
  show cP k_P xs Ln (d + 2) 80 0 [(0, rf 7), (1, (0, room)), (2, (0, some))] [] (T, M) _
  refine s_aload_n kx_80_0 rfl ?_
  refine r_getR (k := 7) (f := 0) (k2 := t) kx_80_1 kp_80_48 (tk_7 hT) kf_5_0 (by decide) h70 ?_
  refine s_astore_n kx_80_4 km_80_3 rfl ?_
  refine s_aload_n kx_80_5 rfl ?_
  refine s_iload_n kx_80_6 rfl ?_
  refine s_iconst (v := (-1)) kx_80_7 (by decide) ?_
  refine s_callV2 (k := 7) (s1 := 3) (s2 := 0) (as := [(0, (-1)), (0, room)]) (rest := []) kx_80_8 kp_80_54 (Or.inl rfl) rfl (tk_7 hT) ki_56 kcl_56 rfl rfl (by decide) (m_56 (d := d) (room := room) (without := (-1)) hT hI ht h70) (kF (fun v1 v1p => ?_))
  refine s_istore kx_80_11 km_80_4 rfl ?_
  refine s_iconst (v := 0) kx_80_13 (by decide) ?_
  refine s_istore kx_80_14 km_80_5 rfl ?_
  have key4 : ∀ n5 : Nat, ∀ (x4_2 x5_3 : Int), (0 ≤ x5_3) → (2147483647 - x5_3).toNat < n5 → cP k_P xs Ln (d + 2) 80 16 [(0, rf 7), (1, (0, room)), (2, (0, some)), (3, rf t), (4, (0, x4_2)), (5, (0, x5_3))] [] (T, M) (qF T M 0 (fun v => 0 ≤ v ∧ v ≤ 1)) := by
    intro n5
    induction n5 with
    | zero => intro x4_2 x5_3 i6 hm7; exact absurd hm7 (Nat.not_lt_zero _)
    | succ n5 ih8 =>
      intro x4_2 x5_3 i6 hm7
      refine s_iload kx_80_16 rfl ?_
      refine s_aload_n kx_80_18 rfl ?_
      refine r_getI (k := t) (f := 1) kx_80_19 kp_80_58 (tkt_0 hT ht) kf_9_1 (fun _ => rfl) (rgt_0_1 hI ht) (fun v9 v9e v9a v9b => ?_)
      refine s_icmp_ge (t := 117) kx_80_22 (by decide) (fun hc10 => ?_) (fun hc10 => ?_)
      · refine s_iload kx_80_117 rfl ?_
        refine s_aload_n kx_80_119 rfl ?_
        refine r_getR (k := t) (f := 6) (k2 := (t + 3)) kx_80_120 kp_80_82 (tkt_0 hT ht) kf_9_6 (by decide) (rqt_6 hI ht) ?_
        refine s_iload_n kx_80_123 rfl ?_
        refine r_aldU (k := (t + 3)) kx_80_124 (tkt_3 hT ht) ⟨by omega, by omega⟩ (fun v11 v11e => ?_)
        refine s_icmp_gt (t := 132) kx_80_125 (by decide) (fun hc12 => ?_) (fun hc12 => ?_)
        · refine s_iconst (v := 0) kx_80_132 (by decide) ?_
          exact s_iret kx_80_133 (Or.inr ⟨kq_80, by omega⟩) ⟨_, rfl, rfl, (by omega)⟩
        · refine s_iconst (v := 1) kx_80_128 (by decide) ?_
          refine s_goto (t := 133) kx_80_129 (by decide) ?_
          exact s_iret kx_80_133 (Or.inr ⟨kq_80, by omega⟩) ⟨_, rfl, rfl, (by omega)⟩
      · refine s_iload_n kx_80_25 rfl ?_
        refine s_iload kx_80_26 rfl ?_
        refine r_ishrR kx_80_28 (fun v13 v13a v13b => ?_)
        refine s_iconst (v := 1) kx_80_29 (by decide) ?_
        refine r_iandM kx_80_30 (by decide) (by decide) (fun v14 v14a v14b => ?_)
        refine s_if_ne (t := 37) kx_80_31 (by decide) (fun hc15 => ?_) (fun hc15 => ?_)
        · refine s_aload_n kx_80_37 rfl ?_
          refine r_getR (k := t) (f := 12) (k2 := (t + 9)) kx_80_38 kp_80_63 (tkt_0 hT ht) kf_9_12 (by decide) (rqt_12 hI ht) ?_
          refine s_iload kx_80_41 rfl ?_
          refine r_aldU (k := (t + 9)) kx_80_43 (tkt_9 hT ht) ⟨by omega, by omega⟩ (fun v16 v16e => ?_)
          refine s_istore kx_80_44 km_80_6 rfl ?_
          refine s_aload_n kx_80_46 rfl ?_
          refine s_iload kx_80_47 rfl ?_
          refine s_callV2 (k := 7) (s1 := 2) (s2 := 0) (as := [(0, x5_3)]) (rest := []) kx_80_49 kp_80_66 (Or.inl rfl) rfl (tk_7 hT) ki_45 kcl_45 rfl rfl (by decide) (m_45 (d := d + 1) (chair := x5_3) hT hI (by omega)) (kF (fun v17 v17p => ?_))
          refine s_if_ne (t := 70) kx_80_52 (by decide) (fun hc18 => ?_) (fun hc18 => ?_)
          · refine s_iconst (v := 0) kx_80_70 (by decide) ?_
            exact s_iret kx_80_71 (Or.inr ⟨kq_80, by omega⟩) ⟨_, rfl, rfl, (by omega)⟩
          · refine s_iload kx_80_55 rfl ?_
            refine s_iconst (v := (-1)) kx_80_57 (by decide) ?_
            refine s_icmp_eq (t := 72) kx_80_58 (by decide) (fun hc19 => ?_) (fun hc19 => ?_)
            · refine s_aload_n kx_80_72 rfl ?_
              refine s_iload kx_80_73 rfl ?_
              refine s_callV2 (k := 7) (s1 := 2) (s2 := 0) (as := [(0, x5_3)]) (rest := []) kx_80_75 kp_80_70 (Or.inl rfl) rfl (tk_7 hT) ki_44 kcl_44 rfl rfl (by decide) (m_44 (d := d + 1) (chair := x5_3) hT hI (by omega)) (kF (fun v20 v20p => ?_))
              refine s_iload_n kx_80_78 rfl ?_
              refine s_icmp_eq (t := 111) kx_80_79 (by decide) (fun hc21 => ?_) (fun hc21 => ?_)
              · refine r_iinc kx_80_111 rfl km_80_5 (by decide) ⟨by omega, by omega⟩ rfl ?_
                refine s_goto (t := 16) kx_80_114 (by decide) ?_
                exact cP.wk (lS1 rfl (lS1 rfl (lS1 rfl (lS1 rfl (lS1 rfl (lS1 rfl lS0)))))) (ih8 x4_2 (x5_3 + 1) (by omega) (by omega))
              · refine s_aload_n kx_80_82 rfl ?_
                refine s_iload kx_80_83 rfl ?_
                refine s_callV2 (k := t) (s1 := 2) (s2 := 0) (as := [(0, x5_3)]) (rest := []) kx_80_85 kp_80_73 (Or.inl rfl) rfl (tkt_0 hT ht) ki_116 kcl_116 rfl rfl (by decide) (m_116 (d := d) (chair := x5_3) hT hI ht) (kF (fun v22 v22p => ?_))
                refine s_aload_n kx_80_88 rfl ?_
                refine r_getR (k := t) (f := 5) (k2 := (t + 2)) kx_80_89 kp_80_76 (tkt_0 hT ht) kf_9_5 (by decide) (rqt_5 hI ht) ?_
                refine s_iload_n kx_80_92 rfl ?_
                refine r_aldU (k := (t + 2)) kx_80_93 (tkt_2 hT ht) ⟨by omega, by omega⟩ (fun v23 v23e => ?_)
                refine s_icmp_le (t := 99) kx_80_94 (by decide) (fun hc24 => ?_) (fun hc24 => ?_)
                · refine s_iload kx_80_99 rfl ?_
                  refine s_aload_n kx_80_101 rfl ?_
                  refine r_getR (k := t) (f := 11) (k2 := (t + 8)) kx_80_102 kp_80_79 (tkt_0 hT ht) kf_9_11 (by decide) (rqt_11 hI ht) ?_
                  refine s_iload kx_80_105 rfl ?_
                  refine r_aldU (k := (t + 8)) kx_80_107 (tkt_8 hT ht) ⟨by omega, by omega⟩ (fun v25 v25e => ?_)
                  refine r_iaddR kx_80_108 (fun v26 v26a v26b => ?_)
                  refine s_istore kx_80_109 km_80_4 rfl ?_
                  refine r_iinc kx_80_111 rfl km_80_5 (by decide) ⟨by omega, by omega⟩ rfl ?_
                  refine s_goto (t := 16) kx_80_114 (by decide) ?_
                  exact cP.wk (lS1 rfl (lS1 rfl (lS1 rfl (lS1 rfl (lS1 rfl (lS1 rfl lS0)))))) (ih8 v26 (x5_3 + 1) (by omega) (by omega))
                · refine s_iconst (v := 0) kx_80_97 (by decide) ?_
                  exact s_iret kx_80_98 (Or.inr ⟨kq_80, by omega⟩) ⟨_, rfl, rfl, (by omega)⟩
            · refine s_iload_n kx_80_61 rfl ?_
              refine s_iload kx_80_62 rfl ?_
              refine r_ishrR kx_80_64 (fun v27 v27a v27b => ?_)
              refine s_iconst (v := 1) kx_80_65 (by decide) ?_
              refine r_iandM kx_80_66 (by decide) (by decide) (fun v28 v28a v28b => ?_)
              refine s_if_ne (t := 72) kx_80_67 (by decide) (fun hc29 => ?_) (fun hc29 => ?_)
              · refine s_aload_n kx_80_72 rfl ?_
                refine s_iload kx_80_73 rfl ?_
                refine s_callV2 (k := 7) (s1 := 2) (s2 := 0) (as := [(0, x5_3)]) (rest := []) kx_80_75 kp_80_70 (Or.inl rfl) rfl (tk_7 hT) ki_44 kcl_44 rfl rfl (by decide) (m_44 (d := d + 1) (chair := x5_3) hT hI (by omega)) (kF (fun v30 v30p => ?_))
                refine s_iload_n kx_80_78 rfl ?_
                refine s_icmp_eq (t := 111) kx_80_79 (by decide) (fun hc31 => ?_) (fun hc31 => ?_)
                · refine r_iinc kx_80_111 rfl km_80_5 (by decide) ⟨by omega, by omega⟩ rfl ?_
                  refine s_goto (t := 16) kx_80_114 (by decide) ?_
                  exact cP.wk (lS1 rfl (lS1 rfl (lS1 rfl (lS1 rfl (lS1 rfl (lS1 rfl lS0)))))) (ih8 x4_2 (x5_3 + 1) (by omega) (by omega))
                · refine s_aload_n kx_80_82 rfl ?_
                  refine s_iload kx_80_83 rfl ?_
                  refine s_callV2 (k := t) (s1 := 2) (s2 := 0) (as := [(0, x5_3)]) (rest := []) kx_80_85 kp_80_73 (Or.inl rfl) rfl (tkt_0 hT ht) ki_116 kcl_116 rfl rfl (by decide) (m_116 (d := d) (chair := x5_3) hT hI ht) (kF (fun v32 v32p => ?_))
                  refine s_aload_n kx_80_88 rfl ?_
                  refine r_getR (k := t) (f := 5) (k2 := (t + 2)) kx_80_89 kp_80_76 (tkt_0 hT ht) kf_9_5 (by decide) (rqt_5 hI ht) ?_
                  refine s_iload_n kx_80_92 rfl ?_
                  refine r_aldU (k := (t + 2)) kx_80_93 (tkt_2 hT ht) ⟨by omega, by omega⟩ (fun v33 v33e => ?_)
                  refine s_icmp_le (t := 99) kx_80_94 (by decide) (fun hc34 => ?_) (fun hc34 => ?_)
                  · refine s_iload kx_80_99 rfl ?_
                    refine s_aload_n kx_80_101 rfl ?_
                    refine r_getR (k := t) (f := 11) (k2 := (t + 8)) kx_80_102 kp_80_79 (tkt_0 hT ht) kf_9_11 (by decide) (rqt_11 hI ht) ?_
                    refine s_iload kx_80_105 rfl ?_
                    refine r_aldU (k := (t + 8)) kx_80_107 (tkt_8 hT ht) ⟨by omega, by omega⟩ (fun v35 v35e => ?_)
                    refine r_iaddR kx_80_108 (fun v36 v36a v36b => ?_)
                    refine s_istore kx_80_109 km_80_4 rfl ?_
                    refine r_iinc kx_80_111 rfl km_80_5 (by decide) ⟨by omega, by omega⟩ rfl ?_
                    refine s_goto (t := 16) kx_80_114 (by decide) ?_
                    exact cP.wk (lS1 rfl (lS1 rfl (lS1 rfl (lS1 rfl (lS1 rfl (lS1 rfl lS0)))))) (ih8 v36 (x5_3 + 1) (by omega) (by omega))
                  · refine s_iconst (v := 0) kx_80_97 (by decide) ?_
                    exact s_iret kx_80_98 (Or.inr ⟨kq_80, by omega⟩) ⟨_, rfl, rfl, (by omega)⟩
              · refine s_iconst (v := 0) kx_80_70 (by decide) ?_
                exact s_iret kx_80_71 (Or.inr ⟨kq_80, by omega⟩) ⟨_, rfl, rfl, (by omega)⟩
        · refine s_goto (t := 111) kx_80_34 (by decide) ?_
          refine r_iinc kx_80_111 rfl km_80_5 (by decide) ⟨by omega, by omega⟩ rfl ?_
          refine s_goto (t := 16) kx_80_114 (by decide) ?_
          exact cP.wk (lS1 rfl (lS1 rfl (lS1 rfl (lS1 rfl (lS1 rfl (lS1 rfl lS0)))))) (ih8 x4_2 (x5_3 + 1) (by omega) (by omega))
  exact cP.wk (lS1 rfl (lS1 rfl (lS1 rfl (lS1 rfl (lS1 rfl (lS1 rfl lS0)))))) (key4 _ v1 0 (by omega) (Nat.lt_succ_self _))
theorem kx_79_0 : x_code k_P 79 0 = some (.iconst 0, 1) := by decide +kernel
theorem kx_79_1 : x_code k_P 79 1 = some (.istore 4, 2) := by decide +kernel
theorem km_79_4 : 4 < x_maxL k_P 79 := by decide +kernel
theorem kx_79_3 : x_code k_P 79 3 = some (.iconst 1, 1) := by decide +kernel
theorem kx_79_4 : x_code k_P 79 4 = some (.istore 5, 2) := by decide +kernel
theorem km_79_5 : 5 < x_maxL k_P 79 := by decide +kernel
theorem kx_79_6 : x_code k_P 79 6 = some (.iload 5, 2) := by decide +kernel
theorem kx_79_8 : x_code k_P 79 8 = some (.iload_n 3, 1) := by decide +kernel
theorem kx_79_9 : x_code k_P 79 9 = some (.if_icmp .gt 57, 3) := by decide +kernel
theorem kx_79_66 : x_code k_P 79 66 = some (.iload 4, 2) := by decide +kernel
theorem kx_79_68 : x_code k_P 79 68 = some (.ireturn, 1) := by decide +kernel
theorem kq_79 : x_retk k_P 79 = 1 := by decide +kernel
theorem kx_79_12 : x_code k_P 79 12 = some (.iload 5, 2) := by decide +kernel
theorem kx_79_14 : x_code k_P 79 14 = some (.iload_n 3, 1) := by decide +kernel
theorem kx_79_15 : x_code k_P 79 15 = some (.iconst (-1), 1) := by decide +kernel
theorem kx_79_16 : x_code k_P 79 16 = some (.ixor, 1) := by decide +kernel
theorem kx_79_17 : x_code k_P 79 17 = some (.iand, 1) := by decide +kernel
theorem kx_79_18 : x_code k_P 79 18 = some (.ifCond .ne 7, 3) := by decide +kernel
theorem kx_79_25 : x_code k_P 79 25 = some (.iconst 0, 1) := by decide +kernel
theorem kx_79_21 : x_code k_P 79 21 = some (.iconst 1, 1) := by decide +kernel
theorem kx_79_22 : x_code k_P 79 22 = some (.goto 4, 3) := by decide +kernel
theorem kx_79_26 : x_code k_P 79 26 = some (.istore 6, 2) := by decide +kernel
theorem km_79_6 : 6 < x_maxL k_P 79 := by decide +kernel
theorem kx_79_28 : x_code k_P 79 28 = some (.iload 6, 2) := by decide +kernel
theorem kx_79_30 : x_code k_P 79 30 = some (.ifCond .eq 30, 3) := by decide +kernel
theorem kx_79_60 : x_code k_P 79 60 = some (.iinc 5 1, 3) := by decide +kernel
theorem kx_79_63 : x_code k_P 79 63 = some (.goto (-57), 3) := by decide +kernel
theorem kx_79_33 : x_code k_P 79 33 = some (.iload 5, 2) := by decide +kernel
theorem kx_79_35 : x_code k_P 79 35 = some (.invokestatic 38, 3) := by decide +kernel
theorem kp_79_38 : x_pool k_P 79 38 = (6, 294, 1) := by decide +kernel
theorem kcl_294 : x_maxL k_P 294 ≤ 60 ∧ 1 ≤ x_maxL k_P 294 := by decide +kernel
theorem kx_79_38 : x_code k_P 79 38 = some (.iload 4, 2) := by decide +kernel
theorem kx_79_40 : x_code k_P 79 40 = some (.invokestatic 38, 3) := by decide +kernel
theorem kx_79_43 : x_code k_P 79 43 = some (.if_icmp .le 17, 3) := by decide +kernel
theorem kx_79_46 : x_code k_P 79 46 = some (.aload_n 1, 1) := by decide +kernel
theorem kx_79_47 : x_code k_P 79 47 = some (.iload_n 2, 1) := by decide +kernel
theorem kx_79_48 : x_code k_P 79 48 = some (.iload 5, 2) := by decide +kernel
theorem kx_79_50 : x_code k_P 79 50 = some (.invokestatic 44, 3) := by decide +kernel
theorem kp_79_44 : x_pool k_P 79 44 = (6, 80, 3) := by decide +kernel
theorem kcl_80 : x_maxL k_P 80 ≤ 60 ∧ 3 ≤ x_maxL k_P 80 := by decide +kernel
theorem kx_79_53 : x_code k_P 79 53 = some (.ifCond .eq 7, 3) := by decide +kernel
theorem kx_79_56 : x_code k_P 79 56 = some (.iload 5, 2) := by decide +kernel
theorem kx_79_58 : x_code k_P 79 58 = some (.istore 4, 2) := by decide +kernel
theorem m_79 {xs : Nat → Int} {Ln d : Nat} {T : List cK} {M : cM} (hT : TT T) (hI : Rng M) {t : Nat} (ht : t = 8 ∨ t = 25) (h70 : M 7 0 = ((t : Nat) : Int)) {room people : Int} (p0 : 0 ≤ room ∧ room ≤ 7) (p1 : people ≤ 2147483646) : cC k_P xs Ln (d + 3) 79 [rf 54, rf 7, (0, room), (0, people)] (T, M) (qF T M 0 (fun v => True)) := by
  show cP k_P xs Ln (d + 3) 79 0 [(0, rf 54), (1, rf 7), (2, (0, room)), (3, (0, people))] [] (T, M) _
  refine s_iconst (v := 0) kx_79_0 (by decide) ?_
  refine s_istore kx_79_1 km_79_4 rfl ?_
  refine s_iconst (v := 1) kx_79_3 (by decide) ?_
  refine s_istore kx_79_4 km_79_5 rfl ?_
  have key3 : ∀ n4 : Nat, ∀ (x4_1 x5_2 : Int), (1 ≤ x5_2) → (2147483647 - x5_2).toNat < n4 → cP k_P xs Ln (d + 3) 79 6 [(1, rf 7), (2, (0, room)), (3, (0, people)), (4, (0, x4_1)), (5, (0, x5_2))] [] (T, M) (qF T M 0 (fun v => True)) := by
    intro n4
    induction n4 with
    | zero => intro x4_1 x5_2 i5 hm6; exact absurd hm6 (Nat.not_lt_zero _)
    | succ n4 ih7 =>
      intro x4_1 x5_2 i5 hm6
      refine s_iload kx_79_6 rfl ?_
      refine s_iload_n kx_79_8 rfl ?_
      refine s_icmp_gt (t := 66) kx_79_9 (by decide) (fun hc8 => ?_) (fun hc8 => ?_)
      · refine s_iload kx_79_66 rfl ?_
        exact s_iret kx_79_68 (Or.inl kq_79) ⟨_, rfl, rfl, trivial⟩
      · refine s_iload kx_79_12 rfl ?_
        refine s_iload_n kx_79_14 rfl ?_
        refine s_iconst (v := (-1)) kx_79_15 (by decide) ?_
        refine r_ixorR kx_79_16 (fun v9 v9a v9b => ?_)
        refine r_iandR kx_79_17 (fun v10 v10a v10b => ?_)
        have jn15 : ∀ (y14 : Int), (0 ≤ y14) → (y14 ≤ 1) → cP k_P xs Ln (d + 3) 79 26 [(1, rf 7), (2, (0, room)), (3, (0, people)), (4, (0, x4_1)), (5, (0, x5_2))] [(0, y14)] (T, M) (qF T M 0 (fun v => True)) := by
          intro y14 a16 a17
          refine s_istore kx_79_26 km_79_6 rfl ?_
          refine s_iload kx_79_28 rfl ?_
          refine s_if_eq (t := 60) kx_79_30 (by decide) (fun hc18 => ?_) (fun hc18 => ?_)
          · refine r_iinc kx_79_60 rfl km_79_5 (by decide) ⟨by omega, by omega⟩ rfl ?_
            refine s_goto (t := 6) kx_79_63 (by decide) ?_
            exact cP.wk (lS1 rfl (lS1 rfl (lS1 rfl (lS1 rfl (lS1 rfl lS0))))) (ih7 x4_1 (x5_2 + 1) (by omega) (by omega))
          · refine s_iload kx_79_33 rfl ?_
            refine s_callS2 (s1 := 1) (s2 := 0) (as := [(0, x5_2)]) (rest := []) kx_79_35 kp_79_38 rfl kcl_294 rfl rfl (by decide) (m_294 (d := d + 2) (a := x5_2) hT hI) (kF (fun v19 v19p => ?_))
            refine s_iload kx_79_38 rfl ?_
            refine s_callS2 (s1 := 1) (s2 := 1) (as := [(0, x4_1)]) (rest := [(0, v19)]) kx_79_40 kp_79_38 rfl kcl_294 rfl rfl (by decide) (m_294 (d := d + 2) (a := x4_1) hT hI) (kF (fun v20 v20p => ?_))
            refine s_icmp_le (t := 60) kx_79_43 (by decide) (fun hc21 => ?_) (fun hc21 => ?_)
            · refine r_iinc kx_79_60 rfl km_79_5 (by decide) ⟨by omega, by omega⟩ rfl ?_
              refine s_goto (t := 6) kx_79_63 (by decide) ?_
              exact cP.wk (lS1 rfl (lS1 rfl (lS1 rfl (lS1 rfl (lS1 rfl lS0))))) (ih7 x4_1 (x5_2 + 1) (by omega) (by omega))
            · refine s_aload_n kx_79_46 rfl ?_
              refine s_iload_n kx_79_47 rfl ?_
              refine s_iload kx_79_48 rfl ?_
              refine s_callS2 (s1 := 3) (s2 := 0) (as := [(0, x5_2), (0, room), rf 7]) (rest := []) kx_79_50 kp_79_44 rfl kcl_80 rfl rfl (by decide) (m_80 (d := d) (room := room) (some := x5_2) hT hI ht h70 (by omega)) (kF (fun v22 v22p => ?_))
              refine s_if_eq (t := 60) kx_79_53 (by decide) (fun hc23 => ?_) (fun hc23 => ?_)
              · refine r_iinc kx_79_60 rfl km_79_5 (by decide) ⟨by omega, by omega⟩ rfl ?_
                refine s_goto (t := 6) kx_79_63 (by decide) ?_
                exact cP.wk (lS1 rfl (lS1 rfl (lS1 rfl (lS1 rfl (lS1 rfl lS0))))) (ih7 x4_1 (x5_2 + 1) (by omega) (by omega))
              · refine s_iload kx_79_56 rfl ?_
                refine s_istore kx_79_58 km_79_4 rfl ?_
                refine r_iinc kx_79_60 rfl km_79_5 (by decide) ⟨by omega, by omega⟩ rfl ?_
                refine s_goto (t := 6) kx_79_63 (by decide) ?_
                exact cP.wk (lS1 rfl (lS1 rfl (lS1 rfl (lS1 rfl (lS1 rfl lS0))))) (ih7 x5_2 (x5_2 + 1) (by omega) (by omega))
        refine s_if_ne (t := 25) kx_79_18 (by decide) (fun hc11 => ?_) (fun hc11 => ?_)
        · refine s_iconst (v := 0) kx_79_25 (by decide) ?_
          exact cP.wk (lS1 rfl (lS1 rfl (lS1 rfl (lS1 rfl (lS1 rfl lS0))))) (jn15 0 (by omega) (by omega))
        · refine s_iconst (v := 1) kx_79_21 (by decide) ?_
          refine s_goto (t := 26) kx_79_22 (by decide) ?_
          exact cP.wk (lS1 rfl (lS1 rfl (lS1 rfl (lS1 rfl (lS1 rfl lS0))))) (jn15 1 (by omega) (by omega))
  exact cP.wk (lS1 rfl (lS1 rfl (lS1 rfl (lS1 rfl (lS1 rfl lS0))))) (key3 _ 0 1 (by omega) (Nat.lt_succ_self _))
theorem kx_82_0 : x_code k_P 82 0 = some (.aload_n 0, 1) := by decide +kernel
theorem kx_82_1 : x_code k_P 82 1 = some (.getfield 9, 3) := by decide +kernel
theorem kp_82_9 : x_pool k_P 82 9 = (1, 6, 0) := by decide +kernel
theorem kf_6_0 : (x_cls k_P 6)[0]? = some 12 := by decide +kernel
theorem kx_82_4 : x_code k_P 82 4 = some (.iconst (-1), 1) := by decide +kernel
theorem kx_82_5 : x_code k_P 82 5 = some (.invokestatic 100, 3) := by decide +kernel
theorem kp_82_100 : x_pool k_P 82 100 = (6, 301, 2) := by decide +kernel
theorem kx_82_8 : x_code k_P 82 8 = some (.iconst 0, 1) := by decide +kernel
theorem kx_82_9 : x_code k_P 82 9 = some (.istore_n 2, 1) := by decide +kernel
theorem km_82_2 : 2 < x_maxL k_P 82 := by decide +kernel
theorem kx_82_10 : x_code k_P 82 10 = some (.iload_n 2, 1) := by decide +kernel
theorem kx_82_11 : x_code k_P 82 11 = some (.iconst 1, 1) := by decide +kernel
theorem kx_82_12 : x_code k_P 82 12 = some (.iadd, 1) := by decide +kernel
theorem kx_82_13 : x_code k_P 82 13 = some (.aload_n 1, 1) := by decide +kernel
theorem kx_82_14 : x_code k_P 82 14 = some (.getfield 85, 3) := by decide +kernel
theorem kp_82_85 : x_pool k_P 82 85 = (1, 8, 1) := by decide +kernel
theorem kx_82_17 : x_code k_P 82 17 = some (.if_icmp .ge 36, 3) := by decide +kernel
theorem kx_82_53 : x_code k_P 82 53 = some (.return_, 1) := by decide +kernel
theorem kq_82 : x_retk k_P 82 = 0 := by decide +kernel
theorem kx_82_20 : x_code k_P 82 20 = some (.aload_n 1, 1) := by decide +kernel
theorem kx_82_21 : x_code k_P 82 21 = some (.getfield 90, 3) := by decide +kernel
theorem kp_82_90 : x_pool k_P 82 90 = (1, 8, 0) := by decide +kernel
theorem kx_82_24 : x_code k_P 82 24 = some (.iload_n 2, 1) := by decide +kernel
theorem kx_82_25 : x_code k_P 82 25 = some (.iaload, 1) := by decide +kernel
theorem kx_82_26 : x_code k_P 82 26 = some (.istore_n 3, 1) := by decide +kernel
theorem km_82_3 : 3 < x_maxL k_P 82 := by decide +kernel
theorem kx_82_27 : x_code k_P 82 27 = some (.iload_n 3, 1) := by decide +kernel
theorem kx_82_28 : x_code k_P 82 28 = some (.bipush 8, 2) := by decide +kernel
theorem kx_82_30 : x_code k_P 82 30 = some (.if_icmp .ge 17, 3) := by decide +kernel
theorem kx_82_47 : x_code k_P 82 47 = some (.iinc 2 2, 3) := by decide +kernel
theorem kx_82_50 : x_code k_P 82 50 = some (.goto (-40), 3) := by decide +kernel
theorem kx_82_33 : x_code k_P 82 33 = some (.aload_n 0, 1) := by decide +kernel
theorem kx_82_34 : x_code k_P 82 34 = some (.getfield 9, 3) := by decide +kernel
theorem kx_82_37 : x_code k_P 82 37 = some (.iload_n 3, 1) := by decide +kernel
theorem kx_82_38 : x_code k_P 82 38 = some (.aload_n 1, 1) := by decide +kernel
theorem kx_82_39 : x_code k_P 82 39 = some (.getfield 90, 3) := by decide +kernel
theorem kx_82_42 : x_code k_P 82 42 = some (.iload_n 2, 1) := by decide +kernel
theorem kx_82_43 : x_code k_P 82 43 = some (.iconst 1, 1) := by decide +kernel
theorem kx_82_44 : x_code k_P 82 44 = some (.iadd, 1) := by decide +kernel
theorem kx_82_45 : x_code k_P 82 45 = some (.iaload, 1) := by decide +kernel
theorem kx_82_46 : x_code k_P 82 46 = some (.iastore, 1) := by decide +kernel
def fS_82_l10 : List (Nat × Nat) := [(55, 99999)]
def fS_82_m : List (Nat × Nat) := [(55, 99999)]
theorem m_82 {xs : Nat → Int} {Ln d : Nat} {T : List cK} {M : cM} (hT : TT T) (hI : Rng M) : cC k_P xs Ln (d + 1) 82 [rf 54, rf 1] (T, M) (qV T M fS_82_m (fun M1 => True)) := by
  show cP k_P xs Ln (d + 1) 82 0 [(0, rf 54), (1, rf 1)] [] (T, M) _
  have hFm : Fr fS_82_m M M := Fr.refl
  refine s_aload_n kx_82_0 rfl ?_
  refine r_getR (k := 54) (f := 0) (k2 := 55) kx_82_1 kp_82_9 (tk_54 hT) kf_6_0 (by decide) (rq_54_0 hI) ?_
  refine s_iconst (v := (-1)) kx_82_4 (by decide) ?_
  refine s_callS2 (s1 := 2) (s2 := 0) (as := [(0, (-1)), rf 55]) (rest := []) kx_82_5 kp_82_100 rfl kcl_301 rfl rfl (by decide) (m_301 (d := d) (val := (-1)) hT hI (k := 55) (n := 8) (tk_55 hT) (by decide) (fun _ => (ru_55 (by omega) (by omega)))) (kV (fun M2 hI2 fr2 v1p => ?_))
  have hFm2 := hFm.call fr2 rfl
  refine s_iconst (v := 0) kx_82_8 (by decide) ?_
  refine s_istore_n kx_82_9 km_82_2 rfl ?_
  have key5 : ∀ n6 : Nat, ∀ (x2_3 : Int), ∀ M4 : cM, Rng M4 → Fr fS_82_m M M4 → Fr fS_82_l10 M2 M4 → (0 ≤ x2_3) → (x2_3 ≤ 1601) → (2147483647 - x2_3).toNat < n6 → cP k_P xs Ln (d + 1) 82 10 [(0, rf 54), (1, rf 1), (2, (0, x2_3))] [] (T, M4) (qV T M fS_82_m (fun M1 => True)) := by
    intro n6
    induction n6 with
    | zero => intro x2_3 M4 hI4 hFm4 fl4 i7 i8 hm9; exact absurd hm9 (Nat.not_lt_zero _)
    | succ n6 ih10 =>
      intro x2_3 M4 hI4 hFm4 fl4 i7 i8 hm9
      refine s_iload_n kx_82_10 rfl ?_
      refine s_iconst (v := 1) kx_82_11 (by decide) ?_
      refine r_add kx_82_12 ⟨by omega, by omega⟩ ?_
      refine s_aload_n kx_82_13 rfl ?_
      refine r_getI (k := 1) (f := 1) kx_82_14 kp_82_85 (tk_1 hT) kf_8_1 (fun _ => rfl) (rg_1_1 hI4) (fun v11 v11e v11a v11b => ?_)
      have v11z : M 1 1 = v11 := (((fl4 1 1 rfl).trans (fr2 1 1 rfl))).symm.trans v11e
      refine s_icmp_ge (t := 53) kx_82_17 (by decide) (fun hc12 => ?_) (fun hc12 => ?_)
      · exact s_vret kx_82_53 kq_82 ⟨_, rfl, rfl, hI4, hFm4, trivial⟩
      · refine s_aload_n kx_82_20 rfl ?_
        refine r_getR (k := 1) (f := 0) (k2 := 2) kx_82_21 kp_82_90 (tk_1 hT) kf_8_0 (by decide) (rq_1_0 hI4) ?_
        refine s_iload_n kx_82_24 rfl ?_
        refine r_ald (k := 2) kx_82_25 (tk_2 hT) ⟨by omega, by omega⟩ (rg_2 hI4) (fun v13 v13e v13a v13b => ?_)
        refine s_istore_n kx_82_26 km_82_3 rfl ?_
        refine s_iload_n kx_82_27 rfl ?_
        refine s_bipush (v := 8) kx_82_28 (by decide) ?_
        refine s_icmp_ge (t := 47) kx_82_30 (by decide) (fun hc14 => ?_) (fun hc14 => ?_)
        · refine r_iinc kx_82_47 rfl km_82_2 (by decide) ⟨by omega, by omega⟩ rfl ?_
          refine s_goto (t := 10) kx_82_50 (by decide) ?_
          exact cP.wk (lS1 rfl (lS1 rfl (lS1 rfl lS0))) (ih10 (x2_3 + 2) M4 hI4 hFm4 fl4 (by omega) (by omega) (by omega))
        · refine s_aload_n kx_82_33 rfl ?_
          refine r_getR (k := 54) (f := 0) (k2 := 55) kx_82_34 kp_82_9 (tk_54 hT) kf_6_0 (by decide) (rq_54_0 hI4) ?_
          refine s_iload_n kx_82_37 rfl ?_
          refine s_aload_n kx_82_38 rfl ?_
          refine r_getR (k := 1) (f := 0) (k2 := 2) kx_82_39 kp_82_90 (tk_1 hT) kf_8_0 (by decide) (rq_1_0 hI4) ?_
          refine s_iload_n kx_82_42 rfl ?_
          refine s_iconst (v := 1) kx_82_43 (by decide) ?_
          refine r_add kx_82_44 ⟨by omega, by omega⟩ ?_
          refine r_ald (k := 2) kx_82_45 (tk_2 hT) ⟨by omega, by omega⟩ (rg_2 hI4) (fun v15 v15e v15a v15b => ?_)
          refine r_ast (k := 55) kx_82_46 (tk_55 hT) ⟨by omega, by omega⟩ hI4 (ru_55 (by omega) (by omega)) (fun M16 hI16 u16 => ?_)
          have hFm16 := hFm4.up u16 rfl
          have hFl1016 := fl4.up u16 rfl
          refine r_iinc kx_82_47 rfl km_82_2 (by decide) ⟨by omega, by omega⟩ rfl ?_
          refine s_goto (t := 10) kx_82_50 (by decide) ?_
          exact cP.wk (lS1 rfl (lS1 rfl (lS1 rfl lS0))) (ih10 (x2_3 + 2) M16 hI16 hFm16 hFl1016 (by omega) (by omega) (by omega))
  exact cP.wk (lS1 rfl (lS1 rfl (lS1 rfl lS0))) (key5 _ 0 M2 hI2 hFm2 Fr.refl (by omega) (by omega) (Nat.lt_succ_self _))
theorem kx_81_0 : x_code k_P 81 0 = some (.aload_n 2, 1) := by decide +kernel
theorem kx_81_1 : x_code k_P 81 1 = some (.getfield 85, 3) := by decide +kernel
theorem kp_81_85 : x_pool k_P 81 85 = (1, 8, 1) := by decide +kernel
theorem kx_81_4 : x_code k_P 81 4 = some (.iconst 2, 1) := by decide +kernel
theorem kx_81_5 : x_code k_P 81 5 = some (.if_icmp .lt 21, 3) := by decide +kernel
theorem kx_81_26 : x_code k_P 81 26 = some (.iconst 0, 1) := by decide +kernel
theorem kx_81_27 : x_code k_P 81 27 = some (.ireturn, 1) := by decide +kernel
theorem kq_81 : x_retk k_P 81 = 2 := by decide +kernel
theorem kx_81_8 : x_code k_P 81 8 = some (.aload_n 2, 1) := by decide +kernel
theorem kx_81_9 : x_code k_P 81 9 = some (.getfield 85, 3) := by decide +kernel
theorem kx_81_12 : x_code k_P 81 12 = some (.bipush 16, 2) := by decide +kernel
theorem kx_81_14 : x_code k_P 81 14 = some (.if_icmp .gt 12, 3) := by decide +kernel
theorem kx_81_17 : x_code k_P 81 17 = some (.aload_n 2, 1) := by decide +kernel
theorem kx_81_18 : x_code k_P 81 18 = some (.getfield 85, 3) := by decide +kernel
theorem kx_81_21 : x_code k_P 81 21 = some (.iconst 2, 1) := by decide +kernel
theorem kx_81_22 : x_code k_P 81 22 = some (.irem, 1) := by decide +kernel
theorem kx_81_23 : x_code k_P 81 23 = some (.ifCond .eq 5, 3) := by decide +kernel
theorem kx_81_28 : x_code k_P 81 28 = some (.iconst 0, 1) := by decide +kernel
theorem kx_81_29 : x_code k_P 81 29 = some (.istore_n 3, 1) := by decide +kernel
theorem km_81_3 : 3 < x_maxL k_P 81 := by decide +kernel
theorem kx_81_30 : x_code k_P 81 30 = some (.iconst 0, 1) := by decide +kernel
theorem kx_81_31 : x_code k_P 81 31 = some (.istore 4, 2) := by decide +kernel
theorem km_81_4 : 4 < x_maxL k_P 81 := by decide +kernel
theorem kx_81_33 : x_code k_P 81 33 = some (.iload 4, 2) := by decide +kernel
theorem kx_81_35 : x_code k_P 81 35 = some (.iconst 1, 1) := by decide +kernel
theorem kx_81_36 : x_code k_P 81 36 = some (.iadd, 1) := by decide +kernel
theorem kx_81_37 : x_code k_P 81 37 = some (.aload_n 2, 1) := by decide +kernel
theorem kx_81_38 : x_code k_P 81 38 = some (.getfield 85, 3) := by decide +kernel
theorem kx_81_41 : x_code k_P 81 41 = some (.if_icmp .ge 46, 3) := by decide +kernel
theorem kx_81_87 : x_code k_P 81 87 = some (.aload_n 0, 1) := by decide +kernel
theorem kx_81_88 : x_code k_P 81 88 = some (.aload_n 2, 1) := by decide +kernel
theorem kx_81_89 : x_code k_P 81 89 = some (.invokevirtual 96, 3) := by decide +kernel
theorem kp_81_96 : x_pool k_P 81 96 = (2, 82, 1) := by decide +kernel
theorem ki_82 : x_mci k_P 82 = 6 := by decide +kernel
theorem kcl_82 : x_maxL k_P 82 ≤ 60 ∧ 2 ≤ x_maxL k_P 82 := by decide +kernel
theorem kx_81_92 : x_code k_P 81 92 = some (.iconst 1, 1) := by decide +kernel
theorem kx_81_93 : x_code k_P 81 93 = some (.ireturn, 1) := by decide +kernel
theorem kx_81_44 : x_code k_P 81 44 = some (.aload_n 2, 1) := by decide +kernel
theorem kx_81_45 : x_code k_P 81 45 = some (.getfield 90, 3) := by decide +kernel
theorem kp_81_90 : x_pool k_P 81 90 = (1, 8, 0) := by decide +kernel
theorem kx_81_48 : x_code k_P 81 48 = some (.iload 4, 2) := by decide +kernel
theorem kx_81_50 : x_code k_P 81 50 = some (.iaload, 1) := by decide +kernel
theorem kx_81_51 : x_code k_P 81 51 = some (.istore 5, 2) := by decide +kernel
theorem km_81_5 : 5 < x_maxL k_P 81 := by decide +kernel
theorem kx_81_53 : x_code k_P 81 53 = some (.aload_n 1, 1) := by decide +kernel
theorem kx_81_54 : x_code k_P 81 54 = some (.iload 5, 2) := by decide +kernel
theorem kx_81_56 : x_code k_P 81 56 = some (.invokevirtual 93, 3) := by decide +kernel
theorem kp_81_93 : x_pool k_P 81 93 = (2, 106, 1) := by decide +kernel
theorem kx_81_59 : x_code k_P 81 59 = some (.ifCond .eq 13, 3) := by decide +kernel
theorem kx_81_72 : x_code k_P 81 72 = some (.iconst 0, 1) := by decide +kernel
theorem kx_81_73 : x_code k_P 81 73 = some (.ireturn, 1) := by decide +kernel
theorem kx_81_62 : x_code k_P 81 62 = some (.iload_n 3, 1) := by decide +kernel
theorem kx_81_63 : x_code k_P 81 63 = some (.iload 5, 2) := by decide +kernel
theorem kx_81_65 : x_code k_P 81 65 = some (.ishr, 1) := by decide +kernel
theorem kx_81_66 : x_code k_P 81 66 = some (.iconst 1, 1) := by decide +kernel
theorem kx_81_67 : x_code k_P 81 67 = some (.iand, 1) := by decide +kernel
theorem kx_81_68 : x_code k_P 81 68 = some (.iconst 1, 1) := by decide +kernel
theorem kx_81_69 : x_code k_P 81 69 = some (.if_icmp .ne 5, 3) := by decide +kernel
theorem kx_81_74 : x_code k_P 81 74 = some (.iload_n 3, 1) := by decide +kernel
theorem kx_81_75 : x_code k_P 81 75 = some (.iconst 1, 1) := by decide +kernel
theorem kx_81_76 : x_code k_P 81 76 = some (.iload 5, 2) := by decide +kernel
theorem kx_81_78 : x_code k_P 81 78 = some (.ishl, 1) := by decide +kernel
theorem kx_81_79 : x_code k_P 81 79 = some (.ior, 1) := by decide +kernel
theorem kx_81_80 : x_code k_P 81 80 = some (.istore_n 3, 1) := by decide +kernel
theorem kx_81_81 : x_code k_P 81 81 = some (.iinc 4 2, 3) := by decide +kernel
theorem kx_81_84 : x_code k_P 81 84 = some (.goto (-51), 3) := by decide +kernel
def fS_81_l33 : List (Nat × Nat) := [(55, 99999)]
def fS_81_m : List (Nat × Nat) := [(55, 99999)]
theorem m_81 {xs : Nat → Int} {Ln d : Nat} {T : List cK} {M : cM} (hT : TT T) (hI : Rng M) {t : Nat} (ht : t = 8 ∨ t = 25) : cC k_P xs Ln (d + 2) 81 [rf 54, rf t, rf 1] (T, M) (qW T M fS_81_m 0 (fun v M1 => 0 ≤ v ∧ v ≤ 1)) := by
  show cP k_P xs Ln (d + 2) 81 0 [(0, rf 54), (1, rf t), (2, rf 1)] [] (T, M) _
  have hFm : Fr fS_81_m M M := Fr.refl
  refine s_aload_n kx_81_0 rfl ?_
  refine r_getI (k := 1) (f := 1) kx_81_1 kp_81_85 (tk_1 hT) kf_8_1 (fun _ => rfl) (rg_1_1 hI) (fun v1 v1e v1a v1b => ?_)
  refine s_iconst (v := 2) kx_81_4 (by decide) ?_
  refine s_icmp_lt (t := 26) kx_81_5 (by decide) (fun hc2 => ?_) (fun hc2 => ?_)
  · refine s_iconst (v := 0) kx_81_26 (by decide) ?_
    exact s_iret kx_81_27 (Or.inr ⟨kq_81, by omega⟩) ⟨_, _, rfl, rfl, hI, hFm, (by omega)⟩
  · refine s_aload_n kx_81_8 rfl ?_
    refine r_getK (k := 1) (f := 1) kx_81_9 kp_81_85 (tk_1 hT) kf_8_1 (fun _ => rfl) v1e ?_
    refine s_bipush (v := 16) kx_81_12 (by decide) ?_
    refine s_icmp_gt (t := 26) kx_81_14 (by decide) (fun hc3 => ?_) (fun hc3 => ?_)
    · refine s_iconst (v := 0) kx_81_26 (by decide) ?_
      exact s_iret kx_81_27 (Or.inr ⟨kq_81, by omega⟩) ⟨_, _, rfl, rfl, hI, hFm, (by omega)⟩
    · refine s_aload_n kx_81_17 rfl ?_
      refine r_getK (k := 1) (f := 1) kx_81_18 kp_81_85 (tk_1 hT) kf_8_1 (fun _ => rfl) v1e ?_
      refine s_iconst (v := 2) kx_81_21 (by decide) ?_
      refine r_irem kx_81_22 (by omega) (by omega) (by omega) (by omega) ?_
      refine s_if_eq (t := 28) kx_81_23 (by decide) (fun hc4 => ?_) (fun hc4 => ?_)
      · refine s_iconst (v := 0) kx_81_28 (by decide) ?_
        refine s_istore_n kx_81_29 km_81_3 rfl ?_
        refine s_iconst (v := 0) kx_81_30 (by decide) ?_
        refine s_istore kx_81_31 km_81_4 rfl ?_
        have key8 : ∀ n9 : Nat, ∀ (x3_5 x4_6 : Int), ∀ M7 : cM, Rng M7 → Fr fS_81_m M M7 → Fr fS_81_l33 M M7 → (0 ≤ x4_6) → (x4_6 ≤ 1601) → (2147483647 - x4_6).toNat < n9 → cP k_P xs Ln (d + 2) 81 33 [(0, rf 54), (1, rf t), (2, rf 1), (3, (0, x3_5)), (4, (0, x4_6))] [] (T, M7) (qW T M fS_81_m 0 (fun v M1 => 0 ≤ v ∧ v ≤ 1)) := by
          intro n9
          induction n9 with
          | zero => intro x3_5 x4_6 M7 hI7 hFm7 fl7 i10 i11 hm12; exact absurd hm12 (Nat.not_lt_zero _)
          | succ n9 ih13 =>
            intro x3_5 x4_6 M7 hI7 hFm7 fl7 i10 i11 hm12
            refine s_iload kx_81_33 rfl ?_
            refine s_iconst (v := 1) kx_81_35 (by decide) ?_
            refine r_add kx_81_36 ⟨by omega, by omega⟩ ?_
            refine s_aload_n kx_81_37 rfl ?_
            refine r_getK (k := 1) (f := 1) kx_81_38 kp_81_85 (tk_1 hT) kf_8_1 (fun _ => rfl) ((fl7 1 1 rfl).trans v1e) ?_
            refine s_icmp_ge (t := 87) kx_81_41 (by decide) (fun hc14 => ?_) (fun hc14 => ?_)
            · refine s_aload_n kx_81_87 rfl ?_
              refine s_aload_n kx_81_88 rfl ?_
              refine s_callV2 (k := 54) (s1 := 2) (s2 := 0) (as := [rf 1]) (rest := []) kx_81_89 kp_81_96 (Or.inl rfl) rfl (tk_54 hT) ki_82 kcl_82 rfl rfl (by decide) (m_82 (d := d) hT hI7) (kV (fun M16 hI16 fr16 v15p => ?_))
              have hFm16 := hFm7.call fr16 rfl
              have hFl3316 := fl7.call fr16 rfl
              refine s_iconst (v := 1) kx_81_92 (by decide) ?_
              exact s_iret kx_81_93 (Or.inr ⟨kq_81, by omega⟩) ⟨_, _, rfl, rfl, hI16, hFm16, (by omega)⟩
            · refine s_aload_n kx_81_44 rfl ?_
              refine r_getR (k := 1) (f := 0) (k2 := 2) kx_81_45 kp_81_90 (tk_1 hT) kf_8_0 (by decide) (rq_1_0 hI7) ?_
              refine s_iload kx_81_48 rfl ?_
              refine r_ald (k := 2) kx_81_50 (tk_2 hT) ⟨by omega, by omega⟩ (rg_2 hI7) (fun v17 v17e v17a v17b => ?_)
              refine s_istore kx_81_51 km_81_5 rfl ?_
              refine s_aload_n kx_81_53 rfl ?_
              refine s_iload kx_81_54 rfl ?_
              refine s_callV2 (k := t) (s1 := 2) (s2 := 0) (as := [(0, v17)]) (rest := []) kx_81_56 kp_81_93 (Or.inl rfl) rfl (tkt_0 hT ht) ki_106 kcl_106 rfl rfl (by decide) (m_106 (d := d + 1) (room := v17) hT hI7 ht) (kF (fun v18 v18p => ?_))
              refine s_if_eq (t := 72) kx_81_59 (by decide) (fun hc19 => ?_) (fun hc19 => ?_)
              · replace v18p := v18p.resolve_left (by omega)
                refine s_iconst (v := 0) kx_81_72 (by decide) ?_
                exact s_iret kx_81_73 (Or.inr ⟨kq_81, by omega⟩) ⟨_, _, rfl, rfl, hI7, hFm7, (by omega)⟩
              · replace v18p := v18p.resolve_right (by omega)
                refine s_iload_n kx_81_62 rfl ?_
                refine s_iload kx_81_63 rfl ?_
                refine r_ishrR kx_81_65 (fun v20 v20a v20b => ?_)
                refine s_iconst (v := 1) kx_81_66 (by decide) ?_
                refine r_iandM kx_81_67 (by decide) (by decide) (fun v21 v21a v21b => ?_)
                refine s_iconst (v := 1) kx_81_68 (by decide) ?_
                refine s_icmp_ne (t := 74) kx_81_69 (by decide) (fun hc22 => ?_) (fun hc22 => ?_)
                · refine s_iload_n kx_81_74 rfl ?_
                  refine s_iconst (v := 1) kx_81_75 (by decide) ?_
                  refine s_iload kx_81_76 rfl ?_
                  refine r_ishlR kx_81_78 (fun v23 v23a v23b => ?_)
                  refine r_iorR kx_81_79 (fun v24 v24a v24b => ?_)
                  refine s_istore_n kx_81_80 km_81_3 rfl ?_
                  refine r_iinc kx_81_81 rfl km_81_4 (by decide) ⟨by omega, by omega⟩ rfl ?_
                  refine s_goto (t := 33) kx_81_84 (by decide) ?_
                  exact cP.wk (lS1 rfl (lS1 rfl (lS1 rfl (lS1 rfl (lS1 rfl lS0))))) (ih13 v24 (x4_6 + 2) M7 hI7 hFm7 fl7 (by omega) (by omega) (by omega))
                · refine s_iconst (v := 0) kx_81_72 (by decide) ?_
                  exact s_iret kx_81_73 (Or.inr ⟨kq_81, by omega⟩) ⟨_, _, rfl, rfl, hI7, hFm7, (by omega)⟩
        exact cP.wk (lS1 rfl (lS1 rfl (lS1 rfl (lS1 rfl (lS1 rfl lS0))))) (key8 _ 0 0 M hI hFm Fr.refl (by omega) (by omega) (Nat.lt_succ_self _))
      · refine s_iconst (v := 0) kx_81_26 (by decide) ?_
        exact s_iret kx_81_27 (Or.inr ⟨kq_81, by omega⟩) ⟨_, _, rfl, rfl, hI, hFm, (by omega)⟩
/-- the states that a seating is counted by: each told room's step divides them with its many -/
def SS (M : cM) (n : Int) : Prop := 1 ≤ M 54 7 ∧ ∀ r : Int, 0 ≤ r → r < n → M 56 r.toNat = 0 ∨ (0 < M 56 r.toNat ∧ 0 ≤ M 55 r.toNat ∧ ∃ q, 0 < q ∧ M 54 7 = M 56 r.toNat * (M 55 r.toNat + 1) * q)
theorem SS.fr {S : List (Nat × Nat)} {M M1 : cM} {n : Int} (h : SS M n) (g : Fr S M M1) (h1 : c_in S 54 7 = false) (h2 : ∀ f, c_in S 55 f = false) (h3 : ∀ f, c_in S 56 f = false) : SS M1 n := by
  unfold SS
  rw [g 54 7 h1]
  refine ⟨h.1, fun r a b => ?_⟩
  rw [g 55 _ (h2 _), g 56 _ (h3 _)]
  exact h.2 r a b
theorem SS.up {M M1 : cM} {n x : Int} {k f : Nat} (h : SS M n) (u : Up M k f x M1) (h1 : k ≠ 54 ∧ k ≠ 55 ∧ k ≠ 56) : SS M1 n := by
  unfold SS
  rw [u.2 54 7 (by omega)]
  refine ⟨h.1, fun r a b => ?_⟩
  rw [u.2 55 _ (by omega), u.2 56 _ (by omega)]
  exact h.2 r a b
theorem lay_mul {S a m : Int} (h1 : 1 ≤ S) (h2 : S ≤ 2 ^ a.toNat) (ha : 0 ≤ a) (hm : 0 ≤ m) : 1 ≤ S * (1 + m) ∧ S * (1 + m) ≤ 2 ^ (a + m).toNat := by
  have h3 : 1 + m ≤ 2 ^ m.toNat := by
    have := @Nat.lt_two_pow_self m.toNat
    have h4 : ((m.toNat + 1 : Nat) : Int) ≤ ((2 ^ m.toNat : Nat) : Int) := Int.ofNat_le.mpr this
    rw [Int.natCast_pow, show ((2 : Nat) : Int) = 2 from rfl] at h4
    omega
  constructor
  · have := Int.mul_le_mul h1 (show (1 : Int) ≤ 1 + m by omega) (by omega) (by omega)
    omega
  · rw [show (a + m).toNat = a.toNat + m.toNat by omega, Int.pow_add]
    exact Int.mul_le_mul h2 h3 (by omega) (by omega)
theorem pow8 {n : Int} (h : n ≤ 8) : (2 : Int) ^ n.toNat ≤ 256 := by
  have h2 : n.toNat ≤ 8 := by omega
  have h3 : 2 ^ n.toNat ≤ 2 ^ 8 := Nat.pow_le_pow_right (by decide) h2
  have h4 : ((2 ^ n.toNat : Nat) : Int) ≤ ((2 ^ 8 : Nat) : Int) := Int.ofNat_le.mpr h3
  rw [Int.natCast_pow] at h4
  exact h4
theorem SS_step {M0 M1 M2 : cM} {r w m s S0 : Int} (h : SS M0 r) (h0 : 0 ≤ r) (hS : M0 54 7 = S0) (hw : M0 55 r.toNat = w) (hw1 : -1 ≤ w) (hm : (m = 0 ∨ m = w) ∧ 0 ≤ m ∧ w ≤ m) (hs : (w = -1 ∧ s = 0) ∨ (w ≠ -1 ∧ s = S0)) (u1 : Up M0 56 r.toNat s M1) (u2 : Up M1 54 7 (S0 * (1 + m)) M2) : SS M2 (r + 1) := by
  have e7 : M2 54 7 = S0 * (1 + m) := u2.1
  have hS1 : 1 ≤ S0 := by
    have := h.1
    omega
  unfold SS
  rw [e7]
  constructor
  · have := Int.mul_le_mul hS1 (show (1 : Int) ≤ 1 + m by omega) (by omega) (by omega)
    omega
  · intro x a b
    rw [u2.2 55 _ (by omega), u1.2 55 _ (by omega), u2.2 56 _ (by omega)]
    by_cases e : x = r
    · subst e
      rw [u1.1, hw]
      rcases hs with ⟨e1, e2⟩ | ⟨e1, e2⟩
      · exact Or.inl e2
      · refine Or.inr ⟨by omega, by omega, 1, by omega, ?_⟩
        rw [e2, show m = w by omega, Int.mul_one, Int.add_comm 1 w]
    · rw [u1.2 56 _ (by omega)]
      rcases h.2 x a (by omega) with g | ⟨g1, g2, q, g3, g4⟩
      · exact Or.inl g
      · refine Or.inr ⟨g1, g2, q * (1 + m), ?_, ?_⟩
        · exact Int.mul_pos g3 (by omega)
        · rw [← hS, g4, Int.mul_assoc]
theorem mixle {S p w q : Int} (hp : 0 < p) (hw : 0 ≤ w) (hq : 0 < q) (hS : S = p * (w + 1) * q) : p ≤ S := by
  have a1 : p * 1 ≤ p * (w + 1) := Int.mul_le_mul_of_nonneg_left (by omega) (by omega)
  have a2 : p * (w + 1) * 1 ≤ p * (w + 1) * q := Int.mul_le_mul_of_nonneg_left (by omega) (by omega)
  rw [hS]
  omega
theorem mixrad {s S p w q : Int} (h0 : 0 ≤ s) (h1 : s < S) (hp : 0 < p) (hw : 0 ≤ w) (hS : S = p * (w + 1) * q) (h : s / p % (w + 1) < w) : s + p < S := by
  have a1 : s / p < (w + 1) * q := Int.ediv_lt_of_lt_mul hp (by rw [Int.mul_comm, ← Int.mul_assoc, ← hS]; exact h1)
  have a2 := Int.mul_ediv_add_emod (s / p) (w + 1)
  have a3 : s / p / (w + 1) < q := Int.ediv_lt_of_lt_mul (by omega) (by rw [Int.mul_comm]; exact a1)
  have a4 : (w + 1) * (s / p / (w + 1) + 1) ≤ (w + 1) * q := Int.mul_le_mul_of_nonneg_left (by omega) (by omega)
  rw [Int.mul_add, Int.mul_one] at a4
  have a5 : s / p + 2 ≤ (w + 1) * q := by omega
  have a6 : p * (s / p + 2) ≤ p * ((w + 1) * q) := Int.mul_le_mul_of_nonneg_left a5 (by omega)
  rw [← Int.mul_assoc, ← hS, Int.mul_add] at a6
  have a7 := Int.mul_ediv_add_emod s p
  have a8 := Int.emod_lt_of_pos s hp
  omega
theorem kx_84_0 : x_code k_P 84 0 = some (.iconst 0, 1) := by decide +kernel
theorem kx_84_1 : x_code k_P 84 1 = some (.istore_n 2, 1) := by decide +kernel
theorem km_84_2 : 2 < x_maxL k_P 84 := by decide +kernel
theorem kx_84_2 : x_code k_P 84 2 = some (.aload_n 0, 1) := by decide +kernel
theorem kx_84_3 : x_code k_P 84 3 = some (.iconst 1, 1) := by decide +kernel
theorem kx_84_4 : x_code k_P 84 4 = some (.putfield 34, 3) := by decide +kernel
theorem kp_84_34 : x_pool k_P 84 34 = (1, 6, 7) := by decide +kernel
theorem kf_6_7 : (x_cls k_P 6)[7]? = some 0 := by decide +kernel
theorem kx_84_7 : x_code k_P 84 7 = some (.iconst 0, 1) := by decide +kernel
theorem kx_84_8 : x_code k_P 84 8 = some (.istore_n 3, 1) := by decide +kernel
theorem km_84_3 : 3 < x_maxL k_P 84 := by decide +kernel
theorem kx_84_9 : x_code k_P 84 9 = some (.iload_n 3, 1) := by decide +kernel
theorem kx_84_10 : x_code k_P 84 10 = some (.bipush 8, 2) := by decide +kernel
theorem kx_84_12 : x_code k_P 84 12 = some (.if_icmp .ge 74, 3) := by decide +kernel
theorem kx_84_86 : x_code k_P 84 86 = some (.aload_n 0, 1) := by decide +kernel
theorem kx_84_87 : x_code k_P 84 87 = some (.getfield 34, 3) := by decide +kernel
theorem kx_84_90 : x_code k_P 84 90 = some (.sipush 256, 3) := by decide +kernel
theorem kx_84_93 : x_code k_P 84 93 = some (.if_icmp .gt 7, 3) := by decide +kernel
theorem kx_84_100 : x_code k_P 84 100 = some (.iconst 0, 1) := by decide +kernel
theorem kx_84_101 : x_code k_P 84 101 = some (.ireturn, 1) := by decide +kernel
theorem kq_84 : x_retk k_P 84 = 2 := by decide +kernel
theorem kx_84_96 : x_code k_P 84 96 = some (.iconst 1, 1) := by decide +kernel
theorem kx_84_97 : x_code k_P 84 97 = some (.goto 4, 3) := by decide +kernel
theorem kx_84_15 : x_code k_P 84 15 = some (.iload_n 2, 1) := by decide +kernel
theorem kx_84_16 : x_code k_P 84 16 = some (.iconst 0, 1) := by decide +kernel
theorem kx_84_17 : x_code k_P 84 17 = some (.aload_n 0, 1) := by decide +kernel
theorem kx_84_18 : x_code k_P 84 18 = some (.getfield 9, 3) := by decide +kernel
theorem kp_84_9 : x_pool k_P 84 9 = (1, 6, 0) := by decide +kernel
theorem kx_84_21 : x_code k_P 84 21 = some (.iload_n 3, 1) := by decide +kernel
theorem kx_84_22 : x_code k_P 84 22 = some (.iaload, 1) := by decide +kernel
theorem kx_84_23 : x_code k_P 84 23 = some (.invokestatic 117, 3) := by decide +kernel
theorem kp_84_117 : x_pool k_P 84 117 = (6, 297, 2) := by decide +kernel
theorem kx_84_26 : x_code k_P 84 26 = some (.iadd, 1) := by decide +kernel
theorem kx_84_27 : x_code k_P 84 27 = some (.istore_n 2, 1) := by decide +kernel
theorem kx_84_28 : x_code k_P 84 28 = some (.iload_n 2, 1) := by decide +kernel
theorem kx_84_29 : x_code k_P 84 29 = some (.iload_n 1, 1) := by decide +kernel
theorem kx_84_30 : x_code k_P 84 30 = some (.if_icmp .le 5, 3) := by decide +kernel
theorem kx_84_35 : x_code k_P 84 35 = some (.aload_n 0, 1) := by decide +kernel
theorem kx_84_36 : x_code k_P 84 36 = some (.getfield 15, 3) := by decide +kernel
theorem kp_84_15 : x_pool k_P 84 15 = (1, 6, 1) := by decide +kernel
theorem kf_6_1 : (x_cls k_P 6)[1]? = some 12 := by decide +kernel
theorem kx_84_39 : x_code k_P 84 39 = some (.iload_n 3, 1) := by decide +kernel
theorem kx_84_40 : x_code k_P 84 40 = some (.aload_n 0, 1) := by decide +kernel
theorem kx_84_41 : x_code k_P 84 41 = some (.getfield 9, 3) := by decide +kernel
theorem kx_84_44 : x_code k_P 84 44 = some (.iload_n 3, 1) := by decide +kernel
theorem kx_84_45 : x_code k_P 84 45 = some (.iaload, 1) := by decide +kernel
theorem kx_84_46 : x_code k_P 84 46 = some (.iconst (-1), 1) := by decide +kernel
theorem kx_84_47 : x_code k_P 84 47 = some (.if_icmp .ne 7, 3) := by decide +kernel
theorem kx_84_54 : x_code k_P 84 54 = some (.aload_n 0, 1) := by decide +kernel
theorem kx_84_55 : x_code k_P 84 55 = some (.getfield 34, 3) := by decide +kernel
theorem kx_84_58 : x_code k_P 84 58 = some (.iastore, 1) := by decide +kernel
theorem kx_84_59 : x_code k_P 84 59 = some (.aload_n 0, 1) := by decide +kernel
theorem kx_84_60 : x_code k_P 84 60 = some (.dup, 1) := by decide +kernel
theorem kx_84_61 : x_code k_P 84 61 = some (.getfield 34, 3) := by decide +kernel
theorem kx_84_64 : x_code k_P 84 64 = some (.iconst 1, 1) := by decide +kernel
theorem kx_84_65 : x_code k_P 84 65 = some (.iconst 0, 1) := by decide +kernel
theorem kx_84_66 : x_code k_P 84 66 = some (.aload_n 0, 1) := by decide +kernel
theorem kx_84_67 : x_code k_P 84 67 = some (.getfield 9, 3) := by decide +kernel
theorem kx_84_70 : x_code k_P 84 70 = some (.iload_n 3, 1) := by decide +kernel
theorem kx_84_71 : x_code k_P 84 71 = some (.iaload, 1) := by decide +kernel
theorem kx_84_72 : x_code k_P 84 72 = some (.invokestatic 117, 3) := by decide +kernel
theorem kx_84_75 : x_code k_P 84 75 = some (.iadd, 1) := by decide +kernel
theorem kx_84_76 : x_code k_P 84 76 = some (.imul, 1) := by decide +kernel
theorem kx_84_77 : x_code k_P 84 77 = some (.putfield 34, 3) := by decide +kernel
theorem kx_84_80 : x_code k_P 84 80 = some (.iinc 3 1, 3) := by decide +kernel
theorem kx_84_83 : x_code k_P 84 83 = some (.goto (-74), 3) := by decide +kernel
theorem kx_84_50 : x_code k_P 84 50 = some (.iconst 0, 1) := by decide +kernel
theorem kx_84_51 : x_code k_P 84 51 = some (.goto 7, 3) := by decide +kernel
theorem kx_84_33 : x_code k_P 84 33 = some (.iconst 0, 1) := by decide +kernel
theorem kx_84_34 : x_code k_P 84 34 = some (.ireturn, 1) := by decide +kernel
def fS_84_l9 : List (Nat × Nat) := [(54, 7), (56, 99999)]
def fS_84_m : List (Nat × Nat) := [(54, 7), (56, 99999)]
theorem m_84 {xs : Nat → Int} {Ln d : Nat} {T : List cK} {M : cM} (hT : TT T) (hI : Rng M) {people : Int} (p0 : 0 ≤ people ∧ people ≤ 8) : cC k_P xs Ln (d + 1) 84 [rf 54, (0, people)] (T, M) (qW T M fS_84_m 0 (fun v M1 => (v = 1 ∧ SS M1 8 ∧ M1 54 7 ≤ 256) ∨ v = 0)) := by
  show cP k_P xs Ln (d + 1) 84 0 [(0, rf 54), (1, (0, people))] [] (T, M) _
  have hFm : Fr fS_84_m M M := Fr.refl
  refine s_iconst (v := 0) kx_84_0 (by decide) ?_
  refine s_istore_n kx_84_1 km_84_2 rfl ?_
  refine s_aload_n kx_84_2 rfl ?_
  refine s_iconst (v := 1) kx_84_3 (by decide) ?_
  refine r_put (k := 54) (f := 7) kx_84_4 kp_84_34 (tk_54 hT) kf_6_7 rfl (by decide) (by decide) hI ru_54_7 (fun M1 hI1 u1 => ?_)
  have hFm1 := hFm.up u1 rfl
  refine s_iconst (v := 0) kx_84_7 (by decide) ?_
  refine s_istore_n kx_84_8 km_84_3 rfl ?_
  have key5 : ∀ n6 : Nat, ∀ (x2_2 x3_3 : Int), ∀ M4 : cM, Rng M4 → Fr fS_84_m M M4 → Fr fS_84_l9 M1 M4 → (0 ≤ x2_2) → (x2_2 ≤ 8) → (0 ≤ x3_3) → (x3_3 ≤ 8) → (SS M4 x3_3) → (M4 54 7 ≤ 2 ^ (x2_2).toNat) → (2147483647 - x3_3).toNat < n6 → cP k_P xs Ln (d + 1) 84 9 [(0, rf 54), (1, (0, people)), (2, (0, x2_2)), (3, (0, x3_3))] [] (T, M4) (qW T M fS_84_m 0 (fun v M1 => (v = 1 ∧ SS M1 8 ∧ M1 54 7 ≤ 256) ∨ v = 0)) := by
    intro n6
    induction n6 with
    | zero => intro x2_2 x3_3 M4 hI4 hFm4 fl4 i7 i8 i9 i10 i11 i12 hm13; exact absurd hm13 (Nat.not_lt_zero _)
    | succ n6 ih14 =>
      intro x2_2 x3_3 M4 hI4 hFm4 fl4 i7 i8 i9 i10 i11 i12 hm13
      obtain ⟨sv, sve⟩ : ∃ z, M4 54 7 = z := ⟨_, rfl⟩
      have hss1 := i11.1
      refine s_iload_n kx_84_9 rfl ?_
      refine s_bipush (v := 8) kx_84_10 (by decide) ?_
      refine s_icmp_ge (t := 86) kx_84_12 (by decide) (fun hc15 => ?_) (fun hc15 => ?_)
      · refine s_aload_n kx_84_86 rfl ?_
        refine r_getK (k := 54) (f := 7) kx_84_87 kp_84_34 (tk_54 hT) kf_6_7 (fun _ => rfl) sve ?_
        refine s_sipush (v := 256) kx_84_90 (by decide) ?_
        refine s_icmp_gt (t := 100) kx_84_93 (by decide) (fun hc16 => ?_) (fun hc16 => ?_)
        · refine s_iconst (v := 0) kx_84_100 (by decide) ?_
          exact s_iret kx_84_101 (Or.inr ⟨kq_84, by omega⟩) ⟨_, _, rfl, rfl, hI4, hFm4, (Or.inr rfl)⟩
        · refine s_iconst (v := 1) kx_84_96 (by decide) ?_
          refine s_goto (t := 101) kx_84_97 (by decide) ?_
          exact s_iret kx_84_101 (Or.inr ⟨kq_84, by omega⟩) ⟨_, _, rfl, rfl, hI4, hFm4, (Or.inl ⟨rfl, by rw [show (8 : Int) = x3_3 by omega]; exact i11, by omega⟩)⟩
      · refine s_iload_n kx_84_15 rfl ?_
        refine s_iconst (v := 0) kx_84_16 (by decide) ?_
        refine s_aload_n kx_84_17 rfl ?_
        refine r_getR (k := 54) (f := 0) (k2 := 55) kx_84_18 kp_84_9 (tk_54 hT) kf_6_0 (by decide) (rq_54_0 hI4) ?_
        refine s_iload_n kx_84_21 rfl ?_
        refine r_ald (k := 55) kx_84_22 (tk_55 hT) ⟨by omega, by omega⟩ (rg_55 hI4) (fun v17 v17e v17a v17b => ?_)
        refine s_callS2 (s1 := 2) (s2 := 1) (as := [(0, v17), (0, 0)]) (rest := [(0, x2_2)]) kx_84_23 kp_84_117 rfl kcl_297 rfl rfl (by decide) (m_297 (d := d) (a := 0) (b := v17) hT hI4) (kF (fun v18 v18p => ?_))
        refine r_add kx_84_26 ⟨by omega, by omega⟩ ?_
        refine s_istore_n kx_84_27 km_84_2 rfl ?_
        refine s_iload_n kx_84_28 rfl ?_
        refine s_iload_n kx_84_29 rfl ?_
        refine s_icmp_le (t := 35) kx_84_30 (by decide) (fun hc19 => ?_) (fun hc19 => ?_)
        · refine s_aload_n kx_84_35 rfl ?_
          refine r_getR (k := 54) (f := 1) (k2 := 56) kx_84_36 kp_84_15 (tk_54 hT) kf_6_1 (by decide) (rq_54_1 hI4) ?_
          refine s_iload_n kx_84_39 rfl ?_
          refine s_aload_n kx_84_40 rfl ?_
          refine r_getR (k := 54) (f := 0) (k2 := 55) kx_84_41 kp_84_9 (tk_54 hT) kf_6_0 (by decide) (rq_54_0 hI4) ?_
          refine s_iload_n kx_84_44 rfl ?_
          refine r_aldK (k := 55) kx_84_45 (tk_55 hT) ⟨by omega, by omega⟩ v17e ?_
          refine s_iconst (v := (-1)) kx_84_46 (by decide) ?_
          refine s_icmp_ne (t := 54) kx_84_47 (by decide) (fun hc20 => ?_) (fun hc20 => ?_)
          · refine s_aload_n kx_84_54 rfl ?_
            refine r_getK (k := 54) (f := 7) kx_84_55 kp_84_34 (tk_54 hT) kf_6_7 (fun _ => rfl) sve ?_
            refine r_ast (k := 56) kx_84_58 (tk_56 hT) ⟨by omega, by omega⟩ hI4 ru_56 (fun M21 hI21 u21 => ?_)
            have hFm21 := hFm4.up u21 rfl
            have hFl921 := fl4.up u21 rfl
            refine s_aload_n kx_84_59 rfl ?_
            refine s_dup kx_84_60 rfl ?_
            refine r_getK (k := 54) (f := 7) kx_84_61 kp_84_34 (tk_54 hT) kf_6_7 (fun _ => rfl) ((u21.2 54 7 (by omega)).trans sve) ?_
            refine s_iconst (v := 1) kx_84_64 (by decide) ?_
            refine s_iconst (v := 0) kx_84_65 (by decide) ?_
            refine s_aload_n kx_84_66 rfl ?_
            refine r_getR (k := 54) (f := 0) (k2 := 55) kx_84_67 kp_84_9 (tk_54 hT) kf_6_0 (by decide) (rq_54_0 hI21) ?_
            refine s_iload_n kx_84_70 rfl ?_
            refine r_aldK (k := 55) kx_84_71 (tk_55 hT) ⟨by omega, by omega⟩ ((u21.2 55 _ (by omega)).trans v17e) ?_
            refine s_callS2 (s1 := 2) (s2 := 3) (as := [(0, v17), (0, 0)]) (rest := [(0, 1), (0, sv), rf 54]) kx_84_72 kp_84_117 rfl kcl_297 rfl rfl (by decide) (m_297 (d := d) (a := 0) (b := v17) hT hI21) (kF (fun v22 v22p => ?_))
            refine r_add kx_84_75 ⟨by omega, by omega⟩ ?_
            have hm8 := lay_mul (S := sv) (a := x2_2) (m := v22) (by omega) (by omega) (by omega) (by omega)
            have hm9 := pow8 (n := x2_2 + v22) (by omega)
            refine r_mul kx_84_76 ⟨by omega, by omega⟩ ?_
            refine r_put (k := 54) (f := 7) kx_84_77 kp_84_34 (tk_54 hT) kf_6_7 rfl (by decide) (by decide) hI21 ru_54_7 (fun M23 hI23 u23 => ?_)
            have hFm23 := hFm21.up u23 rfl
            have hFl923 := hFl921.up u23 rfl
            refine r_iinc kx_84_80 rfl km_84_3 (by decide) ⟨by omega, by omega⟩ rfl ?_
            refine s_goto (t := 9) kx_84_83 (by decide) ?_
            have hk24 : M23 54 7 = (sv * (1 + v22)) := u23.1
            exact cP.wk (lS1 rfl (lS1 rfl (lS1 rfl (lS1 rfl lS0)))) (ih14 (x2_2 + v18) (x3_3 + 1) M23 hI23 hFm23 hFl923 (by omega) (by omega) (by omega) (by omega) (SS_step i11 (by omega) sve v17e (by omega) v22p (by omega) u21 u23) (by rw [show v18 = v22 by omega]; omega) (by omega))
          · refine s_iconst (v := 0) kx_84_50 (by decide) ?_
            refine s_goto (t := 58) kx_84_51 (by decide) ?_
            refine r_ast (k := 56) kx_84_58 (tk_56 hT) ⟨by omega, by omega⟩ hI4 ru_56 (fun M25 hI25 u25 => ?_)
            have hFm25 := hFm4.up u25 rfl
            have hFl925 := fl4.up u25 rfl
            refine s_aload_n kx_84_59 rfl ?_
            refine s_dup kx_84_60 rfl ?_
            refine r_getK (k := 54) (f := 7) kx_84_61 kp_84_34 (tk_54 hT) kf_6_7 (fun _ => rfl) ((u25.2 54 7 (by omega)).trans sve) ?_
            refine s_iconst (v := 1) kx_84_64 (by decide) ?_
            refine s_iconst (v := 0) kx_84_65 (by decide) ?_
            refine s_aload_n kx_84_66 rfl ?_
            refine r_getR (k := 54) (f := 0) (k2 := 55) kx_84_67 kp_84_9 (tk_54 hT) kf_6_0 (by decide) (rq_54_0 hI25) ?_
            refine s_iload_n kx_84_70 rfl ?_
            refine r_aldK (k := 55) kx_84_71 (tk_55 hT) ⟨by omega, by omega⟩ ((u25.2 55 _ (by omega)).trans v17e) ?_
            refine s_callS2 (s1 := 2) (s2 := 3) (as := [(0, v17), (0, 0)]) (rest := [(0, 1), (0, sv), rf 54]) kx_84_72 kp_84_117 rfl kcl_297 rfl rfl (by decide) (m_297 (d := d) (a := 0) (b := v17) hT hI25) (kF (fun v26 v26p => ?_))
            refine r_add kx_84_75 ⟨by omega, by omega⟩ ?_
            have hm8 := lay_mul (S := sv) (a := x2_2) (m := v26) (by omega) (by omega) (by omega) (by omega)
            have hm9 := pow8 (n := x2_2 + v26) (by omega)
            refine r_mul kx_84_76 ⟨by omega, by omega⟩ ?_
            refine r_put (k := 54) (f := 7) kx_84_77 kp_84_34 (tk_54 hT) kf_6_7 rfl (by decide) (by decide) hI25 ru_54_7 (fun M27 hI27 u27 => ?_)
            have hFm27 := hFm25.up u27 rfl
            have hFl927 := hFl925.up u27 rfl
            refine r_iinc kx_84_80 rfl km_84_3 (by decide) ⟨by omega, by omega⟩ rfl ?_
            refine s_goto (t := 9) kx_84_83 (by decide) ?_
            have hk28 : M27 54 7 = (sv * (1 + v26)) := u27.1
            exact cP.wk (lS1 rfl (lS1 rfl (lS1 rfl (lS1 rfl lS0)))) (ih14 (x2_2 + v18) (x3_3 + 1) M27 hI27 hFm27 hFl927 (by omega) (by omega) (by omega) (by omega) (SS_step i11 (by omega) sve v17e (by omega) v26p (by omega) u25 u27) (by rw [show v18 = v26 by omega]; omega) (by omega))
        · refine s_iconst (v := 0) kx_84_33 (by decide) ?_
          exact s_iret kx_84_34 (Or.inr ⟨kq_84, by omega⟩) ⟨_, _, rfl, rfl, hI4, hFm4, (Or.inr rfl)⟩
  have hk29 : M1 54 7 = 1 := u1.1
  have hz2 : (2 : Int) ^ (0 : Int).toNat = 1 := rfl
  exact cP.wk (lS1 rfl (lS1 rfl (lS1 rfl (lS1 rfl lS0)))) (key5 _ 0 0 M1 hI1 hFm1 Fr.refl (by omega) (by omega) (by omega) (by omega) (⟨by omega, fun r a b => absurd b (by omega)⟩) (by omega) (Nat.lt_succ_self _))
theorem kx_87_0 : x_code k_P 87 0 = some (.aload_n 0, 1) := by decide +kernel
theorem kx_87_1 : x_code k_P 87 1 = some (.getfield 15, 3) := by decide +kernel
theorem kp_87_15 : x_pool k_P 87 15 = (1, 6, 1) := by decide +kernel
theorem kx_87_4 : x_code k_P 87 4 = some (.iload_n 3, 1) := by decide +kernel
theorem kx_87_5 : x_code k_P 87 5 = some (.iaload, 1) := by decide +kernel
theorem kx_87_6 : x_code k_P 87 6 = some (.ifCond .eq 17, 3) := by decide +kernel
theorem kx_87_23 : x_code k_P 87 23 = some (.iload 4, 2) := by decide +kernel
theorem kx_87_25 : x_code k_P 87 25 = some (.ireturn, 1) := by decide +kernel
theorem kq_87 : x_retk k_P 87 = 1 := by decide +kernel
theorem kx_87_9 : x_code k_P 87 9 = some (.aload_n 1, 1) := by decide +kernel
theorem kx_87_10 : x_code k_P 87 10 = some (.iload_n 2, 1) := by decide +kernel
theorem kx_87_11 : x_code k_P 87 11 = some (.iload_n 3, 1) := by decide +kernel
theorem kx_87_12 : x_code k_P 87 12 = some (.aload_n 1, 1) := by decide +kernel
theorem kx_87_13 : x_code k_P 87 13 = some (.iload_n 2, 1) := by decide +kernel
theorem kx_87_14 : x_code k_P 87 14 = some (.invokevirtual 70, 3) := by decide +kernel
theorem kp_87_70 : x_pool k_P 87 70 = (2, 44, 1) := by decide +kernel
theorem kx_87_17 : x_code k_P 87 17 = some (.invokevirtual 135, 3) := by decide +kernel
theorem kp_87_135 : x_pool k_P 87 135 = (2, 59, 3) := by decide +kernel
theorem kx_87_20 : x_code k_P 87 20 = some (.ifCond .eq 6, 3) := by decide +kernel
theorem kx_87_26 : x_code k_P 87 26 = some (.iload 4, 2) := by decide +kernel
theorem kx_87_28 : x_code k_P 87 28 = some (.aload_n 0, 1) := by decide +kernel
theorem kx_87_29 : x_code k_P 87 29 = some (.getfield 15, 3) := by decide +kernel
theorem kx_87_32 : x_code k_P 87 32 = some (.iload_n 3, 1) := by decide +kernel
theorem kx_87_33 : x_code k_P 87 33 = some (.iaload, 1) := by decide +kernel
theorem kx_87_34 : x_code k_P 87 34 = some (.idiv, 1) := by decide +kernel
theorem kx_87_35 : x_code k_P 87 35 = some (.aload_n 0, 1) := by decide +kernel
theorem kx_87_36 : x_code k_P 87 36 = some (.getfield 9, 3) := by decide +kernel
theorem kp_87_9 : x_pool k_P 87 9 = (1, 6, 0) := by decide +kernel
theorem kx_87_39 : x_code k_P 87 39 = some (.iload_n 3, 1) := by decide +kernel
theorem kx_87_40 : x_code k_P 87 40 = some (.iaload, 1) := by decide +kernel
theorem kx_87_41 : x_code k_P 87 41 = some (.iconst 1, 1) := by decide +kernel
theorem kx_87_42 : x_code k_P 87 42 = some (.iadd, 1) := by decide +kernel
theorem kx_87_43 : x_code k_P 87 43 = some (.irem, 1) := by decide +kernel
theorem kx_87_44 : x_code k_P 87 44 = some (.istore 5, 2) := by decide +kernel
theorem km_87_5 : 5 < x_maxL k_P 87 := by decide +kernel
theorem kx_87_46 : x_code k_P 87 46 = some (.iload 5, 2) := by decide +kernel
theorem kx_87_48 : x_code k_P 87 48 = some (.aload_n 0, 1) := by decide +kernel
theorem kx_87_49 : x_code k_P 87 49 = some (.getfield 9, 3) := by decide +kernel
theorem kx_87_52 : x_code k_P 87 52 = some (.iload_n 3, 1) := by decide +kernel
theorem kx_87_53 : x_code k_P 87 53 = some (.iaload, 1) := by decide +kernel
theorem kx_87_54 : x_code k_P 87 54 = some (.if_icmp .ge 15, 3) := by decide +kernel
theorem kx_87_69 : x_code k_P 87 69 = some (.iconst (-1), 1) := by decide +kernel
theorem kx_87_70 : x_code k_P 87 70 = some (.ireturn, 1) := by decide +kernel
theorem kx_87_57 : x_code k_P 87 57 = some (.iload 4, 2) := by decide +kernel
theorem kx_87_59 : x_code k_P 87 59 = some (.aload_n 0, 1) := by decide +kernel
theorem kx_87_60 : x_code k_P 87 60 = some (.getfield 15, 3) := by decide +kernel
theorem kx_87_63 : x_code k_P 87 63 = some (.iload_n 3, 1) := by decide +kernel
theorem kx_87_64 : x_code k_P 87 64 = some (.iaload, 1) := by decide +kernel
theorem kx_87_65 : x_code k_P 87 65 = some (.iadd, 1) := by decide +kernel
theorem kx_87_66 : x_code k_P 87 66 = some (.goto 4, 3) := by decide +kernel
theorem m_87 {xs : Nat → Int} {Ln d : Nat} {T : List cK} {M : cM} (hT : TT T) (hI : Rng M) {t : Nat} (ht : t = 8 ∨ t = 25) (h70 : M 7 0 = ((t : Nat) : Int)) {person room state : Int} (p0 : 0 ≤ person ∧ person ≤ 7) (p1 : 0 ≤ room ∧ room ≤ 7) (p2 : 0 ≤ state ∧ state ≤ 255) (p3 : state < M 54 7) (p4 : SS M 8) (p5 : M 54 7 ≤ 256) : cC k_P xs Ln (d + 2) 87 [rf 54, rf 7, (0, person), (0, room), (0, state)] (T, M) (qF T M 0 (fun v => (-1) ≤ v ∧ v ≤ 255 ∧ (v = -1 ∨ v < M 54 7))) := by
  show cP k_P xs Ln (d + 2) 87 0 [(0, rf 54), (1, rf 7), (2, (0, person)), (3, (0, room)), (4, (0, state))] [] (T, M) _
  refine s_aload_n kx_87_0 rfl ?_
  refine r_getR (k := 54) (f := 1) (k2 := 56) kx_87_1 kp_87_15 (tk_54 hT) kf_6_1 (by decide) (rq_54_1 hI) ?_
  refine s_iload_n kx_87_4 rfl ?_
  refine r_aldU (k := 56) kx_87_5 (tk_56 hT) ⟨by omega, by omega⟩ (fun v1 v1e => ?_)
  refine s_if_eq (t := 23) kx_87_6 (by decide) (fun hc2 => ?_) (fun hc2 => ?_)
  · refine s_iload kx_87_23 rfl ?_
    exact s_iret kx_87_25 (Or.inl kq_87) ⟨_, rfl, rfl, (by omega)⟩
  · refine s_aload_n kx_87_9 rfl ?_
    refine s_iload_n kx_87_10 rfl ?_
    refine s_iload_n kx_87_11 rfl ?_
    refine s_aload_n kx_87_12 rfl ?_
    refine s_iload_n kx_87_13 rfl ?_
    refine s_callV2 (k := 7) (s1 := 2) (s2 := 3) (as := [(0, person)]) (rest := [(0, room), (0, person), rf 7]) kx_87_14 kp_87_70 (Or.inl rfl) rfl (tk_7 hT) ki_44 kcl_44 rfl rfl (by decide) (m_44 (d := d + 1) (chair := person) hT hI (by omega)) (kF (fun v3 v3p => ?_))
    refine s_callV2 (k := 7) (s1 := 4) (s2 := 0) (as := [(0, v3), (0, room), (0, person)]) (rest := []) kx_87_17 kp_87_135 (Or.inl rfl) rfl (tk_7 hT) ki_59 kcl_59 rfl rfl (by decide) (m_59 (d := d) (person := person) (room := room) (own := v3) hT hI ht h70 (by omega)) (kF (fun v4 v4p => ?_))
    refine s_if_eq (t := 26) kx_87_20 (by decide) (fun hc5 => ?_) (fun hc5 => ?_)
    · obtain ⟨b1, b2, q, b3, b4⟩ := (p4.2 room (by omega) (by omega)).resolve_left (by omega)
      refine s_iload kx_87_26 rfl ?_
      refine s_aload_n kx_87_28 rfl ?_
      refine r_getR (k := 54) (f := 1) (k2 := 56) kx_87_29 kp_87_15 (tk_54 hT) kf_6_1 (by decide) (rq_54_1 hI) ?_
      refine s_iload_n kx_87_32 rfl ?_
      refine r_aldK (k := 56) kx_87_33 (tk_56 hT) ⟨by omega, by omega⟩ v1e ?_
      have hd3 := mixle b1 b2 b3 b4
      have hd1 := Int.ediv_nonneg (show 0 ≤ state by omega) (show 0 ≤ v1 by omega)
      have hd2 := Int.ediv_le_self v1 (show 0 ≤ state by omega)
      refine r_idiv kx_87_34 (by omega) (by omega) (by omega) (by omega) ?_
      refine s_aload_n kx_87_35 rfl ?_
      refine r_getR (k := 54) (f := 0) (k2 := 55) kx_87_36 kp_87_9 (tk_54 hT) kf_6_0 (by decide) (rq_54_0 hI) ?_
      refine s_iload_n kx_87_39 rfl ?_
      refine r_ald (k := 55) kx_87_40 (tk_55 hT) ⟨by omega, by omega⟩ (rg_55 hI) (fun v6 v6e v6a v6b => ?_)
      refine s_iconst (v := 1) kx_87_41 (by decide) ?_
      refine r_add kx_87_42 ⟨by omega, by omega⟩ ?_
      refine r_irem kx_87_43 (by omega) (by omega) (by omega) (by omega) ?_
      refine s_istore kx_87_44 km_87_5 rfl ?_
      refine s_iload kx_87_46 rfl ?_
      refine s_aload_n kx_87_48 rfl ?_
      refine r_getR (k := 54) (f := 0) (k2 := 55) kx_87_49 kp_87_9 (tk_54 hT) kf_6_0 (by decide) (rq_54_0 hI) ?_
      refine s_iload_n kx_87_52 rfl ?_
      refine r_aldK (k := 55) kx_87_53 (tk_55 hT) ⟨by omega, by omega⟩ v6e ?_
      refine s_icmp_ge (t := 69) kx_87_54 (by decide) (fun hc7 => ?_) (fun hc7 => ?_)
      · refine s_iconst (v := (-1)) kx_87_69 (by decide) ?_
        exact s_iret kx_87_70 (Or.inl kq_87) ⟨_, rfl, rfl, (by omega)⟩
      · refine s_iload kx_87_57 rfl ?_
        refine s_aload_n kx_87_59 rfl ?_
        refine r_getR (k := 54) (f := 1) (k2 := 56) kx_87_60 kp_87_15 (tk_54 hT) kf_6_1 (by decide) (rq_54_1 hI) ?_
        refine s_iload_n kx_87_63 rfl ?_
        refine r_aldK (k := 56) kx_87_64 (tk_56 hT) ⟨by omega, by omega⟩ v1e ?_
        have hmx := mixrad (s := state) (S := M 54 7) (p := v1) (w := v6) (q := q) (by omega) (by omega) (by omega) (by omega) (by rw [b4, show M 56 room.toNat = v1 by omega, show M 55 room.toNat = v6 by omega]) (by omega)
        refine r_add kx_87_65 ⟨by omega, by omega⟩ ?_
        refine s_goto (t := 70) kx_87_66 (by decide) ?_
        exact s_iret kx_87_70 (Or.inl kq_87) ⟨_, rfl, rfl, (by omega)⟩
    · refine s_iload kx_87_23 rfl ?_
      exact s_iret kx_87_25 (Or.inl kq_87) ⟨_, rfl, rfl, (by omega)⟩
theorem kx_85_0 : x_code k_P 85 0 = some (.aload_n 0, 1) := by decide +kernel
theorem kx_85_1 : x_code k_P 85 1 = some (.getfield 18, 3) := by decide +kernel
theorem kp_85_18 : x_pool k_P 85 18 = (1, 6, 2) := by decide +kernel
theorem kf_6_2 : (x_cls k_P 6)[2]? = some 12 := by decide +kernel
theorem kx_85_4 : x_code k_P 85 4 = some (.iconst 0, 1) := by decide +kernel
theorem kx_85_5 : x_code k_P 85 5 = some (.invokestatic 100, 3) := by decide +kernel
theorem kp_85_100 : x_pool k_P 85 100 = (6, 301, 2) := by decide +kernel
theorem kx_85_8 : x_code k_P 85 8 = some (.aload_n 0, 1) := by decide +kernel
theorem kx_85_9 : x_code k_P 85 9 = some (.getfield 18, 3) := by decide +kernel
theorem kx_85_12 : x_code k_P 85 12 = some (.iconst 0, 1) := by decide +kernel
theorem kx_85_13 : x_code k_P 85 13 = some (.iconst 1, 1) := by decide +kernel
theorem kx_85_14 : x_code k_P 85 14 = some (.iastore, 1) := by decide +kernel
theorem kx_85_15 : x_code k_P 85 15 = some (.iconst 0, 1) := by decide +kernel
theorem kx_85_16 : x_code k_P 85 16 = some (.istore_n 2, 1) := by decide +kernel
theorem km_85_2 : 2 < x_maxL k_P 85 := by decide +kernel
theorem kx_85_17 : x_code k_P 85 17 = some (.iload_n 2, 1) := by decide +kernel
theorem kx_85_18 : x_code k_P 85 18 = some (.iconst 1, 1) := by decide +kernel
theorem kx_85_19 : x_code k_P 85 19 = some (.iadd, 1) := by decide +kernel
theorem kx_85_20 : x_code k_P 85 20 = some (.aload_n 1, 1) := by decide +kernel
theorem kx_85_21 : x_code k_P 85 21 = some (.getfield 48, 3) := by decide +kernel
theorem kp_85_48 : x_pool k_P 85 48 = (1, 5, 0) := by decide +kernel
theorem kx_85_24 : x_code k_P 85 24 = some (.getfield 58, 3) := by decide +kernel
theorem kp_85_58 : x_pool k_P 85 58 = (1, 9, 1) := by decide +kernel
theorem kx_85_27 : x_code k_P 85 27 = some (.if_icmp .ge 94, 3) := by decide +kernel
theorem kx_85_121 : x_code k_P 85 121 = some (.return_, 1) := by decide +kernel
theorem kq_85 : x_retk k_P 85 = 0 := by decide +kernel
theorem kx_85_30 : x_code k_P 85 30 = some (.iconst 0, 1) := by decide +kernel
theorem kx_85_31 : x_code k_P 85 31 = some (.istore_n 3, 1) := by decide +kernel
theorem km_85_3 : 3 < x_maxL k_P 85 := by decide +kernel
theorem kx_85_32 : x_code k_P 85 32 = some (.iload_n 3, 1) := by decide +kernel
theorem kx_85_33 : x_code k_P 85 33 = some (.aload_n 1, 1) := by decide +kernel
theorem kx_85_34 : x_code k_P 85 34 = some (.getfield 48, 3) := by decide +kernel
theorem kx_85_37 : x_code k_P 85 37 = some (.getfield 122, 3) := by decide +kernel
theorem kp_85_122 : x_pool k_P 85 122 = (1, 9, 0) := by decide +kernel
theorem kx_85_40 : x_code k_P 85 40 = some (.if_icmp .ge 75, 3) := by decide +kernel
theorem kx_85_115 : x_code k_P 85 115 = some (.iinc 2 1, 3) := by decide +kernel
theorem kx_85_118 : x_code k_P 85 118 = some (.goto (-101), 3) := by decide +kernel
theorem kx_85_43 : x_code k_P 85 43 = some (.iconst 0, 1) := by decide +kernel
theorem kx_85_44 : x_code k_P 85 44 = some (.istore 4, 2) := by decide +kernel
theorem km_85_4 : 4 < x_maxL k_P 85 := by decide +kernel
theorem kx_85_46 : x_code k_P 85 46 = some (.iload 4, 2) := by decide +kernel
theorem kx_85_48 : x_code k_P 85 48 = some (.aload_n 0, 1) := by decide +kernel
theorem kx_85_49 : x_code k_P 85 49 = some (.getfield 34, 3) := by decide +kernel
theorem kp_85_34 : x_pool k_P 85 34 = (1, 6, 7) := by decide +kernel
theorem kx_85_52 : x_code k_P 85 52 = some (.if_icmp .ge 57, 3) := by decide +kernel
theorem kx_85_109 : x_code k_P 85 109 = some (.iinc 3 1, 3) := by decide +kernel
theorem kx_85_112 : x_code k_P 85 112 = some (.goto (-80), 3) := by decide +kernel
theorem kx_85_55 : x_code k_P 85 55 = some (.aload_n 0, 1) := by decide +kernel
theorem kx_85_56 : x_code k_P 85 56 = some (.aload_n 1, 1) := by decide +kernel
theorem kx_85_57 : x_code k_P 85 57 = some (.iload_n 2, 1) := by decide +kernel
theorem kx_85_58 : x_code k_P 85 58 = some (.iload_n 3, 1) := by decide +kernel
theorem kx_85_59 : x_code k_P 85 59 = some (.iload 4, 2) := by decide +kernel
theorem kx_85_61 : x_code k_P 85 61 = some (.invokevirtual 125, 3) := by decide +kernel
theorem kp_85_125 : x_pool k_P 85 125 = (2, 87, 4) := by decide +kernel
theorem ki_87 : x_mci k_P 87 = 6 := by decide +kernel
theorem kcl_87 : x_maxL k_P 87 ≤ 60 ∧ 5 ≤ x_maxL k_P 87 := by decide +kernel
theorem kx_85_64 : x_code k_P 85 64 = some (.istore 5, 2) := by decide +kernel
theorem km_85_5 : 5 < x_maxL k_P 85 := by decide +kernel
theorem kx_85_66 : x_code k_P 85 66 = some (.iload 5, 2) := by decide +kernel
theorem kx_85_68 : x_code k_P 85 68 = some (.iconst (-1), 1) := by decide +kernel
theorem kx_85_69 : x_code k_P 85 69 = some (.if_icmp .eq 34, 3) := by decide +kernel
theorem kx_85_103 : x_code k_P 85 103 = some (.iinc 4 1, 3) := by decide +kernel
theorem kx_85_106 : x_code k_P 85 106 = some (.goto (-60), 3) := by decide +kernel
theorem kx_85_72 : x_code k_P 85 72 = some (.aload_n 0, 1) := by decide +kernel
theorem kx_85_73 : x_code k_P 85 73 = some (.getfield 18, 3) := by decide +kernel
theorem kx_85_76 : x_code k_P 85 76 = some (.iload_n 2, 1) := by decide +kernel
theorem kx_85_77 : x_code k_P 85 77 = some (.iconst 1, 1) := by decide +kernel
theorem kx_85_78 : x_code k_P 85 78 = some (.iadd, 1) := by decide +kernel
theorem kx_85_79 : x_code k_P 85 79 = some (.sipush 256, 3) := by decide +kernel
theorem kx_85_82 : x_code k_P 85 82 = some (.imul, 1) := by decide +kernel
theorem kx_85_83 : x_code k_P 85 83 = some (.iload 5, 2) := by decide +kernel
theorem kx_85_85 : x_code k_P 85 85 = some (.iadd, 1) := by decide +kernel
theorem kx_85_86 : x_code k_P 85 86 = some (.dup2, 1) := by decide +kernel
theorem kx_85_87 : x_code k_P 85 87 = some (.iaload, 1) := by decide +kernel
theorem kx_85_88 : x_code k_P 85 88 = some (.aload_n 0, 1) := by decide +kernel
theorem kx_85_89 : x_code k_P 85 89 = some (.getfield 18, 3) := by decide +kernel
theorem kx_85_92 : x_code k_P 85 92 = some (.iload_n 2, 1) := by decide +kernel
theorem kx_85_93 : x_code k_P 85 93 = some (.sipush 256, 3) := by decide +kernel
theorem kx_85_96 : x_code k_P 85 96 = some (.imul, 1) := by decide +kernel
theorem kx_85_97 : x_code k_P 85 97 = some (.iload 4, 2) := by decide +kernel
theorem kx_85_99 : x_code k_P 85 99 = some (.iadd, 1) := by decide +kernel
theorem kx_85_100 : x_code k_P 85 100 = some (.iaload, 1) := by decide +kernel
theorem kx_85_101 : x_code k_P 85 101 = some (.iadd, 1) := by decide +kernel
theorem kx_85_102 : x_code k_P 85 102 = some (.iastore, 1) := by decide +kernel
def fS_85_l17 : List (Nat × Nat) := [(57, 99999)]
def fS_85_l32 : List (Nat × Nat) := [(57, 99999)]
def fS_85_l46 : List (Nat × Nat) := [(57, 99999)]
def fS_85_m : List (Nat × Nat) := [(57, 99999)]
theorem m_85 {xs : Nat → Int} {Ln d : Nat} {T : List cK} {M : cM} (hT : TT T) (hI : Rng M) {t : Nat} (ht : t = 8 ∨ t = 25) (h70 : M 7 0 = ((t : Nat) : Int)) (p0 : M 54 7 ≤ 256) (p1 : SS M 8) : cC k_P xs Ln (d + 3) 85 [rf 54, rf 7] (T, M) (qV T M fS_85_m (fun M1 => True)) := by
  show cP k_P xs Ln (d + 3) 85 0 [(0, rf 54), (1, rf 7)] [] (T, M) _
  have hFm : Fr fS_85_m M M := Fr.refl
  refine s_aload_n kx_85_0 rfl ?_
  refine r_getR (k := 54) (f := 2) (k2 := 57) kx_85_1 kp_85_18 (tk_54 hT) kf_6_2 (by decide) (rq_54_2 hI) ?_
  refine s_iconst (v := 0) kx_85_4 (by decide) ?_
  refine s_callS2 (s1 := 2) (s2 := 0) (as := [(0, 0), rf 57]) (rest := []) kx_85_5 kp_85_100 rfl kcl_301 rfl rfl (by decide) (m_301 (d := d + 2) (val := 0) hT hI (k := 57) (n := 2048) (tk_57 hT) (by decide) (fun _ => ru_57)) (kV (fun M2 hI2 fr2 v1p => ?_))
  have hFm2 := hFm.call fr2 rfl
  refine s_aload_n kx_85_8 rfl ?_
  refine r_getR (k := 54) (f := 2) (k2 := 57) kx_85_9 kp_85_18 (tk_54 hT) kf_6_2 (by decide) (rq_54_2 hI2) ?_
  refine s_iconst (v := 0) kx_85_12 (by decide) ?_
  refine s_iconst (v := 1) kx_85_13 (by decide) ?_
  refine r_ast (k := 57) kx_85_14 (tk_57 hT) ⟨by decide, by decide⟩ hI2 ru_57 (fun M3 hI3 u3 => ?_)
  have hFm3 := hFm2.up u3 rfl
  refine s_iconst (v := 0) kx_85_15 (by decide) ?_
  refine s_istore_n kx_85_16 km_85_2 rfl ?_
  have key6 : ∀ n7 : Nat, ∀ (x2_4 : Int), ∀ M5 : cM, Rng M5 → Fr fS_85_m M M5 → Fr fS_85_l17 M3 M5 → (0 ≤ x2_4) → (x2_4 ≤ 8) → (2147483647 - x2_4).toNat < n7 → cP k_P xs Ln (d + 3) 85 17 [(0, rf 54), (1, rf 7), (2, (0, x2_4))] [] (T, M5) (qV T M fS_85_m (fun M1 => True)) := by
    intro n7
    induction n7 with
    | zero => intro x2_4 M5 hI5 hFm5 fl5 i8 i9 hm10; exact absurd hm10 (Nat.not_lt_zero _)
    | succ n7 ih11 =>
      intro x2_4 M5 hI5 hFm5 fl5 i8 i9 hm10
      refine s_iload_n kx_85_17 rfl ?_
      refine s_iconst (v := 1) kx_85_18 (by decide) ?_
      refine r_add kx_85_19 ⟨by omega, by omega⟩ ?_
      refine s_aload_n kx_85_20 rfl ?_
      refine r_getR (k := 7) (f := 0) (k2 := t) kx_85_21 kp_85_48 (tk_7 hT) kf_5_0 (by decide) ((fl5 7 0 rfl).trans ((u3.2 7 0 (by omega)).trans ((fr2 7 0 rfl).trans h70))) ?_
      refine r_getI (k := t) (f := 1) kx_85_24 kp_85_58 (tkt_0 hT ht) kf_9_1 (fun _ => rfl) (rgt_0_1 hI5 ht) (fun v12 v12e v12a v12b => ?_)
      have v12z : M t 1 = v12 := (((fl5 t 1 (by rcases ht with rfl | rfl <;> rfl)).trans ((u3.2 t 1 (by omega)).trans (fr2 t 1 (by rcases ht with rfl | rfl <;> rfl))))).symm.trans v12e
      refine s_icmp_ge (t := 121) kx_85_27 (by decide) (fun hc13 => ?_) (fun hc13 => ?_)
      · exact s_vret kx_85_121 kq_85 ⟨_, rfl, rfl, hI5, hFm5, trivial⟩
      · refine s_iconst (v := 0) kx_85_30 (by decide) ?_
        refine s_istore_n kx_85_31 km_85_3 rfl ?_
        have key16 : ∀ n17 : Nat, ∀ (x3_14 : Int), ∀ M15 : cM, Rng M15 → Fr fS_85_m M M15 → Fr fS_85_l17 M3 M15 → Fr fS_85_l32 M5 M15 → (0 ≤ x3_14) → (2147483647 - x3_14).toNat < n17 → cP k_P xs Ln (d + 3) 85 32 [(0, rf 54), (1, rf 7), (2, (0, x2_4)), (3, (0, x3_14))] [] (T, M15) (qV T M fS_85_m (fun M1 => True)) := by
          intro n17
          induction n17 with
          | zero => intro x3_14 M15 hI15 hFm15 hFl1715 fl15 i18 hm19; exact absurd hm19 (Nat.not_lt_zero _)
          | succ n17 ih20 =>
            intro x3_14 M15 hI15 hFm15 hFl1715 fl15 i18 hm19
            refine s_iload_n kx_85_32 rfl ?_
            refine s_aload_n kx_85_33 rfl ?_
            refine r_getR (k := 7) (f := 0) (k2 := t) kx_85_34 kp_85_48 (tk_7 hT) kf_5_0 (by decide) ((fl15 7 0 rfl).trans ((fl5 7 0 rfl).trans ((u3.2 7 0 (by omega)).trans ((fr2 7 0 rfl).trans h70)))) ?_
            refine r_getI (k := t) (f := 0) kx_85_37 kp_85_122 (tkt_0 hT ht) kf_9_0 (fun _ => rfl) (rgt_0_0 hI15 ht) (fun v21 v21e v21a v21b => ?_)
            have v21z : M t 0 = v21 := (((fl15 t 0 (by rcases ht with rfl | rfl <;> rfl)).trans ((fl5 t 0 (by rcases ht with rfl | rfl <;> rfl)).trans ((u3.2 t 0 (by omega)).trans (fr2 t 0 (by rcases ht with rfl | rfl <;> rfl)))))).symm.trans v21e
            refine s_icmp_ge (t := 115) kx_85_40 (by decide) (fun hc22 => ?_) (fun hc22 => ?_)
            · refine r_iinc kx_85_115 rfl km_85_2 (by decide) ⟨by omega, by omega⟩ rfl ?_
              refine s_goto (t := 17) kx_85_118 (by decide) ?_
              exact cP.wk (lS1 rfl (lS1 rfl (lS1 rfl lS0))) (ih11 (x2_4 + 1) M15 hI15 hFm15 hFl1715 (by omega) (by omega) (by omega))
            · refine s_iconst (v := 0) kx_85_43 (by decide) ?_
              refine s_istore kx_85_44 km_85_4 rfl ?_
              have key25 : ∀ n26 : Nat, ∀ (x4_23 : Int), ∀ M24 : cM, Rng M24 → Fr fS_85_m M M24 → Fr fS_85_l17 M3 M24 → Fr fS_85_l32 M5 M24 → Fr fS_85_l46 M15 M24 → (0 ≤ x4_23) → (x4_23 ≤ 256) → (2147483647 - x4_23).toNat < n26 → cP k_P xs Ln (d + 3) 85 46 [(0, rf 54), (1, rf 7), (2, (0, x2_4)), (3, (0, x3_14)), (4, (0, x4_23))] [] (T, M24) (qV T M fS_85_m (fun M1 => True)) := by
                intro n26
                induction n26 with
                | zero => intro x4_23 M24 hI24 hFm24 hFl1724 hFl3224 fl24 i27 i28 hm29; exact absurd hm29 (Nat.not_lt_zero _)
                | succ n26 ih30 =>
                  intro x4_23 M24 hI24 hFm24 hFl1724 hFl3224 fl24 i27 i28 hm29
                  refine s_iload kx_85_46 rfl ?_
                  refine s_aload_n kx_85_48 rfl ?_
                  refine r_getU (k := 54) (f := 7) kx_85_49 kp_85_34 (tk_54 hT) kf_6_7 (fun _ => rfl) (fun v31 v31e => ?_)
                  have v31z : M 54 7 = v31 := (((fl24 54 7 rfl).trans ((fl15 54 7 rfl).trans ((fl5 54 7 rfl).trans ((u3.2 54 7 (by omega)).trans (fr2 54 7 rfl)))))).symm.trans v31e
                  refine s_icmp_ge (t := 109) kx_85_52 (by decide) (fun hc32 => ?_) (fun hc32 => ?_)
                  · refine r_iinc kx_85_109 rfl km_85_3 (by decide) ⟨by omega, by omega⟩ rfl ?_
                    refine s_goto (t := 32) kx_85_112 (by decide) ?_
                    exact cP.wk (lS1 rfl (lS1 rfl (lS1 rfl (lS1 rfl lS0)))) (ih20 (x3_14 + 1) M24 hI24 hFm24 hFl1724 hFl3224 (by omega) (by omega))
                  · refine s_aload_n kx_85_55 rfl ?_
                    refine s_aload_n kx_85_56 rfl ?_
                    refine s_iload_n kx_85_57 rfl ?_
                    refine s_iload_n kx_85_58 rfl ?_
                    refine s_iload kx_85_59 rfl ?_
                    refine s_callV2 (k := 54) (s1 := 5) (s2 := 0) (as := [(0, x4_23), (0, x3_14), (0, x2_4), rf 7]) (rest := []) kx_85_61 kp_85_125 (Or.inl rfl) rfl (tk_54 hT) ki_87 kcl_87 rfl rfl (by decide) (m_87 (d := d) (person := x2_4) (room := x3_14) (state := x4_23) hT hI24 ht ((fl24 7 0 rfl).trans ((fl15 7 0 rfl).trans ((fl5 7 0 rfl).trans ((u3.2 7 0 (by omega)).trans ((fr2 7 0 rfl).trans h70))))) (by omega) (by omega) (by omega) (by omega) (SS.fr p1 hFm24 rfl (fun _ => rfl) (fun _ => rfl)) (by omega)) (kF (fun v33 v33p => ?_))
                    refine s_istore kx_85_64 km_85_5 rfl ?_
                    refine s_iload kx_85_66 rfl ?_
                    refine s_iconst (v := (-1)) kx_85_68 (by decide) ?_
                    refine s_icmp_eq (t := 103) kx_85_69 (by decide) (fun hc34 => ?_) (fun hc34 => ?_)
                    · refine r_iinc kx_85_103 rfl km_85_4 (by decide) ⟨by omega, by omega⟩ rfl ?_
                      refine s_goto (t := 46) kx_85_106 (by decide) ?_
                      exact cP.wk (lS1 rfl (lS1 rfl (lS1 rfl (lS1 rfl (lS1 rfl lS0))))) (ih30 (x4_23 + 1) M24 hI24 hFm24 hFl1724 hFl3224 fl24 (by omega) (by omega) (by omega))
                    · refine s_aload_n kx_85_72 rfl ?_
                      refine r_getR (k := 54) (f := 2) (k2 := 57) kx_85_73 kp_85_18 (tk_54 hT) kf_6_2 (by decide) (rq_54_2 hI24) ?_
                      refine s_iload_n kx_85_76 rfl ?_
                      refine s_iconst (v := 1) kx_85_77 (by decide) ?_
                      refine r_add kx_85_78 ⟨by omega, by omega⟩ ?_
                      refine s_sipush (v := 256) kx_85_79 (by decide) ?_
                      refine r_mul kx_85_82 ⟨by omega, by omega⟩ ?_
                      refine s_iload kx_85_83 rfl ?_
                      refine r_add kx_85_85 ⟨by omega, by omega⟩ ?_
                      refine s_dup2 kx_85_86 rfl rfl ?_
                      refine r_aldU (k := 57) kx_85_87 (tk_57 hT) ⟨by omega, by omega⟩ (fun v35 v35e => ?_)
                      refine s_aload_n kx_85_88 rfl ?_
                      refine r_getR (k := 54) (f := 2) (k2 := 57) kx_85_89 kp_85_18 (tk_54 hT) kf_6_2 (by decide) (rq_54_2 hI24) ?_
                      refine s_iload_n kx_85_92 rfl ?_
                      refine s_sipush (v := 256) kx_85_93 (by decide) ?_
                      refine r_mul kx_85_96 ⟨by omega, by omega⟩ ?_
                      refine s_iload kx_85_97 rfl ?_
                      refine r_add kx_85_99 ⟨by omega, by omega⟩ ?_
                      refine r_aldU (k := 57) kx_85_100 (tk_57 hT) ⟨by omega, by omega⟩ (fun v36 v36e => ?_)
                      refine r_iaddR kx_85_101 (fun v37 v37a v37b => ?_)
                      refine r_ast (k := 57) kx_85_102 (tk_57 hT) ⟨by omega, by omega⟩ hI24 ru_57 (fun M38 hI38 u38 => ?_)
                      have hFm38 := hFm24.up u38 rfl
                      have hFl1738 := hFl1724.up u38 rfl
                      have hFl3238 := hFl3224.up u38 rfl
                      have hFl4638 := fl24.up u38 rfl
                      refine r_iinc kx_85_103 rfl km_85_4 (by decide) ⟨by omega, by omega⟩ rfl ?_
                      refine s_goto (t := 46) kx_85_106 (by decide) ?_
                      exact cP.wk (lS1 rfl (lS1 rfl (lS1 rfl (lS1 rfl (lS1 rfl lS0))))) (ih30 (x4_23 + 1) M38 hI38 hFm38 hFl1738 hFl3238 hFl4638 (by omega) (by omega) (by omega))
              exact cP.wk (lS1 rfl (lS1 rfl (lS1 rfl (lS1 rfl (lS1 rfl lS0))))) (key25 _ 0 M15 hI15 hFm15 hFl1715 fl15 Fr.refl (by omega) (by omega) (Nat.lt_succ_self _))
        exact cP.wk (lS1 rfl (lS1 rfl (lS1 rfl (lS1 rfl lS0)))) (key16 _ 0 M5 hI5 hFm5 fl5 Fr.refl (by omega) (Nat.lt_succ_self _))
  exact cP.wk (lS1 rfl (lS1 rfl (lS1 rfl lS0))) (key6 _ 0 M3 hI3 hFm3 Fr.refl (by omega) (by omega) (Nat.lt_succ_self _))
theorem kx_86_0 : x_code k_P 86 0 = some (.aload_n 0, 1) := by decide +kernel
theorem kx_86_1 : x_code k_P 86 1 = some (.getfield 24, 3) := by decide +kernel
theorem kp_86_24 : x_pool k_P 86 24 = (1, 6, 4) := by decide +kernel
theorem kf_6_4 : (x_cls k_P 6)[4]? = some 12 := by decide +kernel
theorem kx_86_4 : x_code k_P 86 4 = some (.iconst 0, 1) := by decide +kernel
theorem kx_86_5 : x_code k_P 86 5 = some (.invokestatic 100, 3) := by decide +kernel
theorem kp_86_100 : x_pool k_P 86 100 = (6, 301, 2) := by decide +kernel
theorem kx_86_8 : x_code k_P 86 8 = some (.iconst 0, 1) := by decide +kernel
theorem kx_86_9 : x_code k_P 86 9 = some (.istore_n 3, 1) := by decide +kernel
theorem km_86_3 : 3 < x_maxL k_P 86 := by decide +kernel
theorem kx_86_10 : x_code k_P 86 10 = some (.iload_n 3, 1) := by decide +kernel
theorem kx_86_11 : x_code k_P 86 11 = some (.aload_n 1, 1) := by decide +kernel
theorem kx_86_12 : x_code k_P 86 12 = some (.getfield 48, 3) := by decide +kernel
theorem kp_86_48 : x_pool k_P 86 48 = (1, 5, 0) := by decide +kernel
theorem kx_86_15 : x_code k_P 86 15 = some (.getfield 122, 3) := by decide +kernel
theorem kp_86_122 : x_pool k_P 86 122 = (1, 9, 0) := by decide +kernel
theorem kx_86_18 : x_code k_P 86 18 = some (.if_icmp .ge 103, 3) := by decide +kernel
theorem kx_86_121 : x_code k_P 86 121 = some (.aload_n 0, 1) := by decide +kernel
theorem kx_86_122 : x_code k_P 86 122 = some (.getfield 24, 3) := by decide +kernel
theorem kx_86_125 : x_code k_P 86 125 = some (.iconst 0, 1) := by decide +kernel
theorem kx_86_126 : x_code k_P 86 126 = some (.aload_n 0, 1) := by decide +kernel
theorem kx_86_127 : x_code k_P 86 127 = some (.getfield 21, 3) := by decide +kernel
theorem kp_86_21 : x_pool k_P 86 21 = (1, 6, 3) := by decide +kernel
theorem kf_6_3 : (x_cls k_P 6)[3]? = some 12 := by decide +kernel
theorem kx_86_130 : x_code k_P 86 130 = some (.iconst 0, 1) := by decide +kernel
theorem kx_86_131 : x_code k_P 86 131 = some (.sipush 256, 3) := by decide +kernel
theorem kx_86_134 : x_code k_P 86 134 = some (.invokestatic 129, 3) := by decide +kernel
theorem kp_86_129 : x_pool k_P 86 129 = (10, 0, 0) := by decide +kernel
theorem kx_86_137 : x_code k_P 86 137 = some (.return_, 1) := by decide +kernel
theorem kq_86 : x_retk k_P 86 = 0 := by decide +kernel
theorem kx_86_21 : x_code k_P 86 21 = some (.iconst 0, 1) := by decide +kernel
theorem kx_86_22 : x_code k_P 86 22 = some (.istore 4, 2) := by decide +kernel
theorem km_86_4 : 4 < x_maxL k_P 86 := by decide +kernel
theorem kx_86_24 : x_code k_P 86 24 = some (.iconst 0, 1) := by decide +kernel
theorem kx_86_25 : x_code k_P 86 25 = some (.istore 5, 2) := by decide +kernel
theorem km_86_5 : 5 < x_maxL k_P 86 := by decide +kernel
theorem kx_86_27 : x_code k_P 86 27 = some (.iload 5, 2) := by decide +kernel
theorem kx_86_29 : x_code k_P 86 29 = some (.aload_n 0, 1) := by decide +kernel
theorem kx_86_30 : x_code k_P 86 30 = some (.getfield 34, 3) := by decide +kernel
theorem kp_86_34 : x_pool k_P 86 34 = (1, 6, 7) := by decide +kernel
theorem kx_86_33 : x_code k_P 86 33 = some (.if_icmp .ge 69, 3) := by decide +kernel
theorem kx_86_102 : x_code k_P 86 102 = some (.aload_n 0, 1) := by decide +kernel
theorem kx_86_103 : x_code k_P 86 103 = some (.getfield 27, 3) := by decide +kernel
theorem kp_86_27 : x_pool k_P 86 27 = (1, 6, 5) := by decide +kernel
theorem kf_6_5 : (x_cls k_P 6)[5]? = some 12 := by decide +kernel
theorem kx_86_106 : x_code k_P 86 106 = some (.iload_n 2, 1) := by decide +kernel
theorem kx_86_107 : x_code k_P 86 107 = some (.bipush 8, 2) := by decide +kernel
theorem kx_86_109 : x_code k_P 86 109 = some (.imul, 1) := by decide +kernel
theorem kx_86_110 : x_code k_P 86 110 = some (.iload_n 3, 1) := by decide +kernel
theorem kx_86_111 : x_code k_P 86 111 = some (.iadd, 1) := by decide +kernel
theorem kx_86_112 : x_code k_P 86 112 = some (.iload 4, 2) := by decide +kernel
theorem kx_86_114 : x_code k_P 86 114 = some (.iastore, 1) := by decide +kernel
theorem kx_86_115 : x_code k_P 86 115 = some (.iinc 3 1, 3) := by decide +kernel
theorem kx_86_118 : x_code k_P 86 118 = some (.goto (-108), 3) := by decide +kernel
theorem kx_86_36 : x_code k_P 86 36 = some (.aload_n 0, 1) := by decide +kernel
theorem kx_86_37 : x_code k_P 86 37 = some (.aload_n 1, 1) := by decide +kernel
theorem kx_86_38 : x_code k_P 86 38 = some (.iload_n 2, 1) := by decide +kernel
theorem kx_86_39 : x_code k_P 86 39 = some (.iload_n 3, 1) := by decide +kernel
theorem kx_86_40 : x_code k_P 86 40 = some (.iload 5, 2) := by decide +kernel
theorem kx_86_42 : x_code k_P 86 42 = some (.invokevirtual 125, 3) := by decide +kernel
theorem kp_86_125 : x_pool k_P 86 125 = (2, 87, 4) := by decide +kernel
theorem kx_86_45 : x_code k_P 86 45 = some (.istore 6, 2) := by decide +kernel
theorem km_86_6 : 6 < x_maxL k_P 86 := by decide +kernel
theorem kx_86_47 : x_code k_P 86 47 = some (.iload 6, 2) := by decide +kernel
theorem kx_86_49 : x_code k_P 86 49 = some (.iconst (-1), 1) := by decide +kernel
theorem kx_86_50 : x_code k_P 86 50 = some (.if_icmp .eq 46, 3) := by decide +kernel
theorem kx_86_96 : x_code k_P 86 96 = some (.iinc 5 1, 3) := by decide +kernel
theorem kx_86_99 : x_code k_P 86 99 = some (.goto (-72), 3) := by decide +kernel
theorem kx_86_53 : x_code k_P 86 53 = some (.iload 4, 2) := by decide +kernel
theorem kx_86_55 : x_code k_P 86 55 = some (.aload_n 0, 1) := by decide +kernel
theorem kx_86_56 : x_code k_P 86 56 = some (.getfield 18, 3) := by decide +kernel
theorem kp_86_18 : x_pool k_P 86 18 = (1, 6, 2) := by decide +kernel
theorem kx_86_59 : x_code k_P 86 59 = some (.iload_n 2, 1) := by decide +kernel
theorem kx_86_60 : x_code k_P 86 60 = some (.sipush 256, 3) := by decide +kernel
theorem kx_86_63 : x_code k_P 86 63 = some (.imul, 1) := by decide +kernel
theorem kx_86_64 : x_code k_P 86 64 = some (.iload 5, 2) := by decide +kernel
theorem kx_86_66 : x_code k_P 86 66 = some (.iadd, 1) := by decide +kernel
theorem kx_86_67 : x_code k_P 86 67 = some (.iaload, 1) := by decide +kernel
theorem kx_86_68 : x_code k_P 86 68 = some (.aload_n 0, 1) := by decide +kernel
theorem kx_86_69 : x_code k_P 86 69 = some (.getfield 21, 3) := by decide +kernel
theorem kx_86_72 : x_code k_P 86 72 = some (.iload 6, 2) := by decide +kernel
theorem kx_86_74 : x_code k_P 86 74 = some (.iaload, 1) := by decide +kernel
theorem kx_86_75 : x_code k_P 86 75 = some (.imul, 1) := by decide +kernel
theorem kx_86_76 : x_code k_P 86 76 = some (.iadd, 1) := by decide +kernel
theorem kx_86_77 : x_code k_P 86 77 = some (.istore 4, 2) := by decide +kernel
theorem kx_86_79 : x_code k_P 86 79 = some (.aload_n 0, 1) := by decide +kernel
theorem kx_86_80 : x_code k_P 86 80 = some (.getfield 24, 3) := by decide +kernel
theorem kx_86_83 : x_code k_P 86 83 = some (.iload 5, 2) := by decide +kernel
theorem kx_86_85 : x_code k_P 86 85 = some (.dup2, 1) := by decide +kernel
theorem kx_86_86 : x_code k_P 86 86 = some (.iaload, 1) := by decide +kernel
theorem kx_86_87 : x_code k_P 86 87 = some (.aload_n 0, 1) := by decide +kernel
theorem kx_86_88 : x_code k_P 86 88 = some (.getfield 21, 3) := by decide +kernel
theorem kx_86_91 : x_code k_P 86 91 = some (.iload 6, 2) := by decide +kernel
theorem kx_86_93 : x_code k_P 86 93 = some (.iaload, 1) := by decide +kernel
theorem kx_86_94 : x_code k_P 86 94 = some (.iadd, 1) := by decide +kernel
theorem kx_86_95 : x_code k_P 86 95 = some (.iastore, 1) := by decide +kernel
def fS_86_l10 : List (Nat × Nat) := [(58, 99999), (59, 99999), (60, 99999)]
def fS_86_l27 : List (Nat × Nat) := [(59, 99999), (60, 99999)]
def fS_86_m : List (Nat × Nat) := [(58, 99999), (59, 99999), (60, 99999)]
theorem m_86 {xs : Nat → Int} {Ln d : Nat} {T : List cK} {M : cM} (hT : TT T) (hI : Rng M) {t : Nat} (ht : t = 8 ∨ t = 25) (h70 : M 7 0 = ((t : Nat) : Int)) {person : Int} (p0 : 0 ≤ person ∧ person ≤ 7) (p1 : M 54 7 ≤ 256) (p2 : SS M 8) : cC k_P xs Ln (d + 3) 86 [rf 54, rf 7, (0, person)] (T, M) (qV T M fS_86_m (fun M1 => True)) := by
  show cP k_P xs Ln (d + 3) 86 0 [(0, rf 54), (1, rf 7), (2, (0, person))] [] (T, M) _
  have hFm : Fr fS_86_m M M := Fr.refl
  refine s_aload_n kx_86_0 rfl ?_
  refine r_getR (k := 54) (f := 4) (k2 := 59) kx_86_1 kp_86_24 (tk_54 hT) kf_6_4 (by decide) (rq_54_4 hI) ?_
  refine s_iconst (v := 0) kx_86_4 (by decide) ?_
  refine s_callS2 (s1 := 2) (s2 := 0) (as := [(0, 0), rf 59]) (rest := []) kx_86_5 kp_86_100 rfl kcl_301 rfl rfl (by decide) (m_301 (d := d + 2) (val := 0) hT hI (k := 59) (n := 256) (tk_59 hT) (by decide) (fun _ => ru_59)) (kV (fun M2 hI2 fr2 v1p => ?_))
  have hFm2 := hFm.call fr2 rfl
  refine s_iconst (v := 0) kx_86_8 (by decide) ?_
  refine s_istore_n kx_86_9 km_86_3 rfl ?_
  have key5 : ∀ n6 : Nat, ∀ (x3_3 : Int), ∀ M4 : cM, Rng M4 → Fr fS_86_m M M4 → Fr fS_86_l10 M2 M4 → (0 ≤ x3_3) → (2147483647 - x3_3).toNat < n6 → cP k_P xs Ln (d + 3) 86 10 [(0, rf 54), (1, rf 7), (2, (0, person)), (3, (0, x3_3))] [] (T, M4) (qV T M fS_86_m (fun M1 => True)) := by
    intro n6
    induction n6 with
    | zero => intro x3_3 M4 hI4 hFm4 fl4 i7 hm8; exact absurd hm8 (Nat.not_lt_zero _)
    | succ n6 ih9 =>
      intro x3_3 M4 hI4 hFm4 fl4 i7 hm8
      refine s_iload_n kx_86_10 rfl ?_
      refine s_aload_n kx_86_11 rfl ?_
      refine r_getR (k := 7) (f := 0) (k2 := t) kx_86_12 kp_86_48 (tk_7 hT) kf_5_0 (by decide) ((fl4 7 0 rfl).trans ((fr2 7 0 rfl).trans h70)) ?_
      refine r_getI (k := t) (f := 0) kx_86_15 kp_86_122 (tkt_0 hT ht) kf_9_0 (fun _ => rfl) (rgt_0_0 hI4 ht) (fun v10 v10e v10a v10b => ?_)
      have v10z : M t 0 = v10 := (((fl4 t 0 (by rcases ht with rfl | rfl <;> rfl)).trans (fr2 t 0 (by rcases ht with rfl | rfl <;> rfl)))).symm.trans v10e
      refine s_icmp_ge (t := 121) kx_86_18 (by decide) (fun hc11 => ?_) (fun hc11 => ?_)
      · refine s_aload_n kx_86_121 rfl ?_
        refine r_getR (k := 54) (f := 4) (k2 := 59) kx_86_122 kp_86_24 (tk_54 hT) kf_6_4 (by decide) (rq_54_4 hI4) ?_
        refine s_iconst (v := 0) kx_86_125 (by decide) ?_
        refine s_aload_n kx_86_126 rfl ?_
        refine r_getR (k := 54) (f := 3) (k2 := 58) kx_86_127 kp_86_21 (tk_54 hT) kf_6_3 (by decide) (rq_54_3 hI4) ?_
        refine s_iconst (v := 0) kx_86_130 (by decide) ?_
        refine s_sipush (v := 256) kx_86_131 (by decide) ?_
        refine r_cpy (ks := 59) (kd := 58) kx_86_134 kp_86_129 (tk_59 hT) (tk_58 hT) ⟨by omega, by omega, by omega, by omega, by omega⟩ (by decide) hI4 (fun _ _ _ => ru_58) (fun M12 hI12 ca13 cb14 => ?_)
        have fr12 : Fr [(58, 99999)] M4 M12 := Fr.cell (fun x y h => cb14 x y (fun g => h g.1))
        have hFm12 := hFm4.call fr12 rfl
        have hFl1012 := fl4.call fr12 rfl
        exact s_vret kx_86_137 kq_86 ⟨_, rfl, rfl, hI12, hFm12, trivial⟩
      · refine s_iconst (v := 0) kx_86_21 (by decide) ?_
        refine s_istore kx_86_22 km_86_4 rfl ?_
        refine s_iconst (v := 0) kx_86_24 (by decide) ?_
        refine s_istore kx_86_25 km_86_5 rfl ?_
        have key18 : ∀ n19 : Nat, ∀ (x4_15 x5_16 : Int), ∀ M17 : cM, Rng M17 → Fr fS_86_m M M17 → Fr fS_86_l10 M2 M17 → Fr fS_86_l27 M4 M17 → (0 ≤ x5_16) → (x5_16 ≤ 256) → (2147483647 - x5_16).toNat < n19 → cP k_P xs Ln (d + 3) 86 27 [(0, rf 54), (1, rf 7), (2, (0, person)), (3, (0, x3_3)), (4, (0, x4_15)), (5, (0, x5_16))] [] (T, M17) (qV T M fS_86_m (fun M1 => True)) := by
          intro n19
          induction n19 with
          | zero => intro x4_15 x5_16 M17 hI17 hFm17 hFl1017 fl17 i20 i21 hm22; exact absurd hm22 (Nat.not_lt_zero _)
          | succ n19 ih23 =>
            intro x4_15 x5_16 M17 hI17 hFm17 hFl1017 fl17 i20 i21 hm22
            refine s_iload kx_86_27 rfl ?_
            refine s_aload_n kx_86_29 rfl ?_
            refine r_getU (k := 54) (f := 7) kx_86_30 kp_86_34 (tk_54 hT) kf_6_7 (fun _ => rfl) (fun v24 v24e => ?_)
            have v24z : M 54 7 = v24 := (((fl17 54 7 rfl).trans ((fl4 54 7 rfl).trans (fr2 54 7 rfl)))).symm.trans v24e
            refine s_icmp_ge (t := 102) kx_86_33 (by decide) (fun hc25 => ?_) (fun hc25 => ?_)
            · refine s_aload_n kx_86_102 rfl ?_
              refine r_getR (k := 54) (f := 5) (k2 := 60) kx_86_103 kp_86_27 (tk_54 hT) kf_6_5 (by decide) (rq_54_5 hI17) ?_
              refine s_iload_n kx_86_106 rfl ?_
              refine s_bipush (v := 8) kx_86_107 (by decide) ?_
              refine r_mul kx_86_109 ⟨by omega, by omega⟩ ?_
              refine s_iload_n kx_86_110 rfl ?_
              refine r_add kx_86_111 ⟨by omega, by omega⟩ ?_
              refine s_iload kx_86_112 rfl ?_
              refine r_ast (k := 60) kx_86_114 (tk_60 hT) ⟨by omega, by omega⟩ hI17 ru_60 (fun M26 hI26 u26 => ?_)
              have hFm26 := hFm17.up u26 rfl
              have hFl1026 := hFl1017.up u26 rfl
              have hFl2726 := fl17.up u26 rfl
              refine r_iinc kx_86_115 rfl km_86_3 (by decide) ⟨by omega, by omega⟩ rfl ?_
              refine s_goto (t := 10) kx_86_118 (by decide) ?_
              exact cP.wk (lS1 rfl (lS1 rfl (lS1 rfl (lS1 rfl lS0)))) (ih9 (x3_3 + 1) M26 hI26 hFm26 hFl1026 (by omega) (by omega))
            · refine s_aload_n kx_86_36 rfl ?_
              refine s_aload_n kx_86_37 rfl ?_
              refine s_iload_n kx_86_38 rfl ?_
              refine s_iload_n kx_86_39 rfl ?_
              refine s_iload kx_86_40 rfl ?_
              refine s_callV2 (k := 54) (s1 := 5) (s2 := 0) (as := [(0, x5_16), (0, x3_3), (0, person), rf 7]) (rest := []) kx_86_42 kp_86_125 (Or.inl rfl) rfl (tk_54 hT) ki_87 kcl_87 rfl rfl (by decide) (m_87 (d := d) (person := person) (room := x3_3) (state := x5_16) hT hI17 ht ((fl17 7 0 rfl).trans ((fl4 7 0 rfl).trans ((fr2 7 0 rfl).trans h70))) (by omega) (by omega) (by omega) (by omega) (SS.fr p2 hFm17 rfl (fun _ => rfl) (fun _ => rfl)) (by omega)) (kF (fun v27 v27p => ?_))
              refine s_istore kx_86_45 km_86_6 rfl ?_
              refine s_iload kx_86_47 rfl ?_
              refine s_iconst (v := (-1)) kx_86_49 (by decide) ?_
              refine s_icmp_eq (t := 96) kx_86_50 (by decide) (fun hc28 => ?_) (fun hc28 => ?_)
              · refine r_iinc kx_86_96 rfl km_86_5 (by decide) ⟨by omega, by omega⟩ rfl ?_
                refine s_goto (t := 27) kx_86_99 (by decide) ?_
                exact cP.wk (lS1 rfl (lS1 rfl (lS1 rfl (lS1 rfl (lS1 rfl (lS1 rfl lS0)))))) (ih23 x4_15 (x5_16 + 1) M17 hI17 hFm17 hFl1017 fl17 (by omega) (by omega) (by omega))
              · refine s_iload kx_86_53 rfl ?_
                refine s_aload_n kx_86_55 rfl ?_
                refine r_getR (k := 54) (f := 2) (k2 := 57) kx_86_56 kp_86_18 (tk_54 hT) kf_6_2 (by decide) (rq_54_2 hI17) ?_
                refine s_iload_n kx_86_59 rfl ?_
                refine s_sipush (v := 256) kx_86_60 (by decide) ?_
                refine r_mul kx_86_63 ⟨by omega, by omega⟩ ?_
                refine s_iload kx_86_64 rfl ?_
                refine r_add kx_86_66 ⟨by omega, by omega⟩ ?_
                refine r_aldU (k := 57) kx_86_67 (tk_57 hT) ⟨by omega, by omega⟩ (fun v29 v29e => ?_)
                refine s_aload_n kx_86_68 rfl ?_
                refine r_getR (k := 54) (f := 3) (k2 := 58) kx_86_69 kp_86_21 (tk_54 hT) kf_6_3 (by decide) (rq_54_3 hI17) ?_
                refine s_iload kx_86_72 rfl ?_
                refine r_aldU (k := 58) kx_86_74 (tk_58 hT) ⟨by omega, by omega⟩ (fun v30 v30e => ?_)
                refine r_imulR kx_86_75 (fun v31 v31a v31b => ?_)
                refine r_iaddR kx_86_76 (fun v32 v32a v32b => ?_)
                refine s_istore kx_86_77 km_86_4 rfl ?_
                refine s_aload_n kx_86_79 rfl ?_
                refine r_getR (k := 54) (f := 4) (k2 := 59) kx_86_80 kp_86_24 (tk_54 hT) kf_6_4 (by decide) (rq_54_4 hI17) ?_
                refine s_iload kx_86_83 rfl ?_
                refine s_dup2 kx_86_85 rfl rfl ?_
                refine r_aldU (k := 59) kx_86_86 (tk_59 hT) ⟨by omega, by omega⟩ (fun v33 v33e => ?_)
                refine s_aload_n kx_86_87 rfl ?_
                refine r_getR (k := 54) (f := 3) (k2 := 58) kx_86_88 kp_86_21 (tk_54 hT) kf_6_3 (by decide) (rq_54_3 hI17) ?_
                refine s_iload kx_86_91 rfl ?_
                refine r_aldK (k := 58) kx_86_93 (tk_58 hT) ⟨by omega, by omega⟩ v30e ?_
                refine r_iaddR kx_86_94 (fun v34 v34a v34b => ?_)
                refine r_ast (k := 59) kx_86_95 (tk_59 hT) ⟨by omega, by omega⟩ hI17 ru_59 (fun M35 hI35 u35 => ?_)
                have hFm35 := hFm17.up u35 rfl
                have hFl1035 := hFl1017.up u35 rfl
                have hFl2735 := fl17.up u35 rfl
                refine r_iinc kx_86_96 rfl km_86_5 (by decide) ⟨by omega, by omega⟩ rfl ?_
                refine s_goto (t := 27) kx_86_99 (by decide) ?_
                exact cP.wk (lS1 rfl (lS1 rfl (lS1 rfl (lS1 rfl (lS1 rfl (lS1 rfl lS0)))))) (ih23 v32 (x5_16 + 1) M35 hI35 hFm35 hFl1035 hFl2735 (by omega) (by omega) (by omega))
        exact cP.wk (lS1 rfl (lS1 rfl (lS1 rfl (lS1 rfl (lS1 rfl (lS1 rfl lS0)))))) (key18 _ 0 0 M4 hI4 hFm4 fl4 Fr.refl (by omega) (by omega) (Nat.lt_succ_self _))
  exact cP.wk (lS1 rfl (lS1 rfl (lS1 rfl (lS1 rfl lS0)))) (key5 _ 0 M2 hI2 hFm2 Fr.refl (by omega) (Nat.lt_succ_self _))
theorem kx_83_0 : x_code k_P 83 0 = some (.aload_n 0, 1) := by decide +kernel
theorem kx_83_1 : x_code k_P 83 1 = some (.iconst 1, 1) := by decide +kernel
theorem kx_83_2 : x_code k_P 83 2 = some (.putfield 30, 3) := by decide +kernel
theorem kp_83_30 : x_pool k_P 83 30 = (1, 6, 6) := by decide +kernel
theorem kf_6_6 : (x_cls k_P 6)[6]? = some 3 := by decide +kernel
theorem kx_83_5 : x_code k_P 83 5 = some (.aload_n 0, 1) := by decide +kernel
theorem kx_83_6 : x_code k_P 83 6 = some (.getfield 27, 3) := by decide +kernel
theorem kp_83_27 : x_pool k_P 83 27 = (1, 6, 5) := by decide +kernel
theorem kx_83_9 : x_code k_P 83 9 = some (.iconst 0, 1) := by decide +kernel
theorem kx_83_10 : x_code k_P 83 10 = some (.invokestatic 100, 3) := by decide +kernel
theorem kp_83_100 : x_pool k_P 83 100 = (6, 301, 2) := by decide +kernel
theorem kx_83_13 : x_code k_P 83 13 = some (.aload_n 0, 1) := by decide +kernel
theorem kx_83_14 : x_code k_P 83 14 = some (.aload_n 1, 1) := by decide +kernel
theorem kx_83_15 : x_code k_P 83 15 = some (.getfield 48, 3) := by decide +kernel
theorem kp_83_48 : x_pool k_P 83 48 = (1, 5, 0) := by decide +kernel
theorem kx_83_18 : x_code k_P 83 18 = some (.getfield 58, 3) := by decide +kernel
theorem kp_83_58 : x_pool k_P 83 58 = (1, 9, 1) := by decide +kernel
theorem kx_83_21 : x_code k_P 83 21 = some (.invokevirtual 106, 3) := by decide +kernel
theorem kp_83_106 : x_pool k_P 83 106 = (2, 84, 1) := by decide +kernel
theorem ki_84 : x_mci k_P 84 = 6 := by decide +kernel
theorem kcl_84 : x_maxL k_P 84 ≤ 60 ∧ 2 ≤ x_maxL k_P 84 := by decide +kernel
theorem kx_83_24 : x_code k_P 83 24 = some (.ifCond .ne 5, 3) := by decide +kernel
theorem kx_83_29 : x_code k_P 83 29 = some (.aload_n 0, 1) := by decide +kernel
theorem kx_83_30 : x_code k_P 83 30 = some (.aload_n 1, 1) := by decide +kernel
theorem kx_83_31 : x_code k_P 83 31 = some (.invokevirtual 109, 3) := by decide +kernel
theorem kp_83_109 : x_pool k_P 83 109 = (2, 85, 1) := by decide +kernel
theorem ki_85 : x_mci k_P 85 = 6 := by decide +kernel
theorem kcl_85 : x_maxL k_P 85 ≤ 60 ∧ 2 ≤ x_maxL k_P 85 := by decide +kernel
theorem kx_83_34 : x_code k_P 83 34 = some (.aload_n 0, 1) := by decide +kernel
theorem kx_83_35 : x_code k_P 83 35 = some (.getfield 21, 3) := by decide +kernel
theorem kp_83_21 : x_pool k_P 83 21 = (1, 6, 3) := by decide +kernel
theorem kx_83_38 : x_code k_P 83 38 = some (.iconst 0, 1) := by decide +kernel
theorem kx_83_39 : x_code k_P 83 39 = some (.invokestatic 100, 3) := by decide +kernel
theorem kx_83_42 : x_code k_P 83 42 = some (.aload_n 0, 1) := by decide +kernel
theorem kx_83_43 : x_code k_P 83 43 = some (.getfield 21, 3) := by decide +kernel
theorem kx_83_46 : x_code k_P 83 46 = some (.aload_n 0, 1) := by decide +kernel
theorem kx_83_47 : x_code k_P 83 47 = some (.getfield 34, 3) := by decide +kernel
theorem kp_83_34 : x_pool k_P 83 34 = (1, 6, 7) := by decide +kernel
theorem kx_83_50 : x_code k_P 83 50 = some (.iconst 1, 1) := by decide +kernel
theorem kx_83_51 : x_code k_P 83 51 = some (.isub, 1) := by decide +kernel
theorem kx_83_52 : x_code k_P 83 52 = some (.iconst 1, 1) := by decide +kernel
theorem kx_83_53 : x_code k_P 83 53 = some (.iastore, 1) := by decide +kernel
theorem kx_83_54 : x_code k_P 83 54 = some (.aload_n 1, 1) := by decide +kernel
theorem kx_83_55 : x_code k_P 83 55 = some (.getfield 48, 3) := by decide +kernel
theorem kx_83_58 : x_code k_P 83 58 = some (.getfield 58, 3) := by decide +kernel
theorem kx_83_61 : x_code k_P 83 61 = some (.iconst 1, 1) := by decide +kernel
theorem kx_83_62 : x_code k_P 83 62 = some (.isub, 1) := by decide +kernel
theorem kx_83_63 : x_code k_P 83 63 = some (.istore_n 2, 1) := by decide +kernel
theorem km_83_2 : 2 < x_maxL k_P 83 := by decide +kernel
theorem kx_83_64 : x_code k_P 83 64 = some (.iload_n 2, 1) := by decide +kernel
theorem kx_83_65 : x_code k_P 83 65 = some (.ifCond .lt 15, 3) := by decide +kernel
theorem kx_83_80 : x_code k_P 83 80 = some (.aload_n 0, 1) := by decide +kernel
theorem kx_83_81 : x_code k_P 83 81 = some (.getfield 21, 3) := by decide +kernel
theorem kx_83_84 : x_code k_P 83 84 = some (.iconst 0, 1) := by decide +kernel
theorem kx_83_85 : x_code k_P 83 85 = some (.iaload, 1) := by decide +kernel
theorem kx_83_86 : x_code k_P 83 86 = some (.ireturn, 1) := by decide +kernel
theorem kq_83 : x_retk k_P 83 = 1 := by decide +kernel
theorem kx_83_68 : x_code k_P 83 68 = some (.aload_n 0, 1) := by decide +kernel
theorem kx_83_69 : x_code k_P 83 69 = some (.aload_n 1, 1) := by decide +kernel
theorem kx_83_70 : x_code k_P 83 70 = some (.iload_n 2, 1) := by decide +kernel
theorem kx_83_71 : x_code k_P 83 71 = some (.invokevirtual 113, 3) := by decide +kernel
theorem kp_83_113 : x_pool k_P 83 113 = (2, 86, 2) := by decide +kernel
theorem ki_86 : x_mci k_P 86 = 6 := by decide +kernel
theorem kcl_86 : x_maxL k_P 86 ≤ 60 ∧ 3 ≤ x_maxL k_P 86 := by decide +kernel
theorem kx_83_74 : x_code k_P 83 74 = some (.iinc 2 (-1), 3) := by decide +kernel
theorem kx_83_77 : x_code k_P 83 77 = some (.goto (-13), 3) := by decide +kernel
theorem kx_83_27 : x_code k_P 83 27 = some (.iconst 0, 1) := by decide +kernel
theorem kx_83_28 : x_code k_P 83 28 = some (.ireturn, 1) := by decide +kernel
def fS_83_l64 : List (Nat × Nat) := [(58, 99999), (59, 99999), (60, 99999)]
def fS_83_m : List (Nat × Nat) := [(54, 6), (54, 7), (56, 99999), (57, 99999), (58, 99999), (59, 99999), (60, 99999)]
theorem m_83 {xs : Nat → Int} {Ln d : Nat} {T : List cK} {M : cM} (hT : TT T) (hI : Rng M) {t : Nat} (ht : t = 8 ∨ t = 25) (h70 : M 7 0 = ((t : Nat) : Int)) : cC k_P xs Ln (d + 4) 83 [rf 54, rf 7] (T, M) (qW T M fS_83_m 0 (fun v M1 => True)) := by
  show cP k_P xs Ln (d + 4) 83 0 [(0, rf 54), (1, rf 7)] [] (T, M) _
  have hFm : Fr fS_83_m M M := Fr.refl
  refine s_aload_n kx_83_0 rfl ?_
  refine s_iconst (v := 1) kx_83_1 (by decide) ?_
  refine r_put (k := 54) (f := 6) kx_83_2 kp_83_30 (tk_54 hT) kf_6_6 rfl (by decide) (by decide) hI (ru_54_6 (by omega) (by omega)) (fun M1 hI1 u1 => ?_)
  have hFm1 := hFm.up u1 rfl
  refine s_aload_n kx_83_5 rfl ?_
  refine r_getR (k := 54) (f := 5) (k2 := 60) kx_83_6 kp_83_27 (tk_54 hT) kf_6_5 (by decide) (rq_54_5 hI1) ?_
  refine s_iconst (v := 0) kx_83_9 (by decide) ?_
  refine s_callS2 (s1 := 2) (s2 := 0) (as := [(0, 0), rf 60]) (rest := []) kx_83_10 kp_83_100 rfl kcl_301 rfl rfl (by decide) (m_301 (d := d + 3) (val := 0) hT hI1 (k := 60) (n := 64) (tk_60 hT) (by decide) (fun _ => ru_60)) (kV (fun M3 hI3 fr3 v2p => ?_))
  have hFm3 := hFm1.call fr3 rfl
  refine s_aload_n kx_83_13 rfl ?_
  refine s_aload_n kx_83_14 rfl ?_
  refine r_getR (k := 7) (f := 0) (k2 := t) kx_83_15 kp_83_48 (tk_7 hT) kf_5_0 (by decide) ((fr3 7 0 rfl).trans ((u1.2 7 0 (by omega)).trans h70)) ?_
  refine r_getI (k := t) (f := 1) kx_83_18 kp_83_58 (tkt_0 hT ht) kf_9_1 (fun _ => rfl) (rgt_0_1 hI3 ht) (fun v4 v4e v4a v4b => ?_)
  have v4z : M t 1 = v4 := (((fr3 t 1 (by rcases ht with rfl | rfl <;> rfl)).trans (u1.2 t 1 (by omega)))).symm.trans v4e
  refine s_callV2 (k := 54) (s1 := 2) (s2 := 0) (as := [(0, v4)]) (rest := []) kx_83_21 kp_83_106 (Or.inl rfl) rfl (tk_54 hT) ki_84 kcl_84 rfl rfl (by decide) (m_84 (d := d + 2) (people := v4) hT hI3 (by omega)) (kW (fun v5 M6 hI6 fr6 v5p => ?_))
  have hFm6 := hFm3.call fr6 rfl
  refine s_if_ne (t := 29) kx_83_24 (by decide) (fun hc7 => ?_) (fun hc7 => ?_)
  · replace v5p := v5p.resolve_right (by omega)
    refine s_aload_n kx_83_29 rfl ?_
    refine s_aload_n kx_83_30 rfl ?_
    refine s_callV2 (k := 54) (s1 := 2) (s2 := 0) (as := [rf 7]) (rest := []) kx_83_31 kp_83_109 (Or.inl rfl) rfl (tk_54 hT) ki_85 kcl_85 rfl rfl (by decide) (m_85 (d := d) hT hI6 ht ((fr6 7 0 rfl).trans ((fr3 7 0 rfl).trans ((u1.2 7 0 (by omega)).trans h70))) (by omega) v5p.2.1) (kV (fun M9 hI9 fr9 v8p => ?_))
    have hFm9 := hFm6.call fr9 rfl
    refine s_aload_n kx_83_34 rfl ?_
    refine r_getR (k := 54) (f := 3) (k2 := 58) kx_83_35 kp_83_21 (tk_54 hT) kf_6_3 (by decide) (rq_54_3 hI9) ?_
    refine s_iconst (v := 0) kx_83_38 (by decide) ?_
    refine s_callS2 (s1 := 2) (s2 := 0) (as := [(0, 0), rf 58]) (rest := []) kx_83_39 kp_83_100 rfl kcl_301 rfl rfl (by decide) (m_301 (d := d + 3) (val := 0) hT hI9 (k := 58) (n := 256) (tk_58 hT) (by decide) (fun _ => ru_58)) (kV (fun M11 hI11 fr11 v10p => ?_))
    have hFm11 := hFm9.call fr11 rfl
    refine s_aload_n kx_83_42 rfl ?_
    refine r_getR (k := 54) (f := 3) (k2 := 58) kx_83_43 kp_83_21 (tk_54 hT) kf_6_3 (by decide) (rq_54_3 hI11) ?_
    refine s_aload_n kx_83_46 rfl ?_
    refine r_getU (k := 54) (f := 7) kx_83_47 kp_83_34 (tk_54 hT) kf_6_7 (fun _ => rfl) (fun v12 v12e => ?_)
    refine s_iconst (v := 1) kx_83_50 (by decide) ?_
    have hsv := (SS.fr (SS.fr v5p.2.1 fr9 rfl (fun _ => rfl) (fun _ => rfl)) fr11 rfl (fun _ => rfl) (fun _ => rfl)).1
    have he13 : M11 54 7 = M6 54 7 := ((fr11 54 7 rfl).trans (fr9 54 7 rfl))
    refine r_sub kx_83_51 ⟨by omega, by omega⟩ ?_
    refine s_iconst (v := 1) kx_83_52 (by decide) ?_
    refine r_ast (k := 58) kx_83_53 (tk_58 hT) ⟨by omega, by omega⟩ hI11 ru_58 (fun M14 hI14 u14 => ?_)
    have hFm14 := hFm11.up u14 rfl
    refine s_aload_n kx_83_54 rfl ?_
    refine r_getR (k := 7) (f := 0) (k2 := t) kx_83_55 kp_83_48 (tk_7 hT) kf_5_0 (by decide) ((u14.2 7 0 (by omega)).trans ((fr11 7 0 rfl).trans ((fr9 7 0 rfl).trans ((fr6 7 0 rfl).trans ((fr3 7 0 rfl).trans ((u1.2 7 0 (by omega)).trans h70)))))) ?_
    refine r_getK (k := t) (f := 1) kx_83_58 kp_83_58 (tkt_0 hT ht) kf_9_1 (fun _ => rfl) ((u14.2 t 1 (by omega)).trans ((fr11 t 1 (by rcases ht with rfl | rfl <;> rfl)).trans ((fr9 t 1 (by rcases ht with rfl | rfl <;> rfl)).trans ((fr6 t 1 (by rcases ht with rfl | rfl <;> rfl)).trans v4e)))) ?_
    refine s_iconst (v := 1) kx_83_61 (by decide) ?_
    refine r_sub kx_83_62 ⟨by omega, by omega⟩ ?_
    refine s_istore_n kx_83_63 km_83_2 rfl ?_
    have key17 : ∀ n18 : Nat, ∀ (x2_15 : Int), ∀ M16 : cM, Rng M16 → Fr fS_83_m M M16 → Fr fS_83_l64 M14 M16 → (x2_15 ≤ 7) → (x2_15 + 2147483648).toNat < n18 → cP k_P xs Ln (d + 4) 83 64 [(0, rf 54), (1, rf 7), (2, (0, x2_15))] [] (T, M16) (qW T M fS_83_m 0 (fun v M1 => True)) := by
      intro n18
      induction n18 with
      | zero => intro x2_15 M16 hI16 hFm16 fl16 i19 hm20; exact absurd hm20 (Nat.not_lt_zero _)
      | succ n18 ih21 =>
        intro x2_15 M16 hI16 hFm16 fl16 i19 hm20
        refine s_iload_n kx_83_64 rfl ?_
        refine s_if_lt (t := 80) kx_83_65 (by decide) (fun hc22 => ?_) (fun hc22 => ?_)
        · refine s_aload_n kx_83_80 rfl ?_
          refine r_getR (k := 54) (f := 3) (k2 := 58) kx_83_81 kp_83_21 (tk_54 hT) kf_6_3 (by decide) (rq_54_3 hI16) ?_
          refine s_iconst (v := 0) kx_83_84 (by decide) ?_
          refine r_aldU (k := 58) kx_83_85 (tk_58 hT) ⟨by decide, by decide⟩ (fun v23 v23e => ?_)
          exact s_iret kx_83_86 (Or.inl kq_83) ⟨_, _, rfl, rfl, hI16, hFm16, trivial⟩
        · refine s_aload_n kx_83_68 rfl ?_
          refine s_aload_n kx_83_69 rfl ?_
          refine s_iload_n kx_83_70 rfl ?_
          have he24 : M16 54 7 = M6 54 7 := ((fl16 54 7 rfl).trans ((u14.2 54 7 (by omega)).trans ((fr11 54 7 rfl).trans (fr9 54 7 rfl))))
          refine s_callV2 (k := 54) (s1 := 3) (s2 := 0) (as := [(0, x2_15), rf 7]) (rest := []) kx_83_71 kp_83_113 (Or.inl rfl) rfl (tk_54 hT) ki_86 kcl_86 rfl rfl (by decide) (m_86 (d := d) (person := x2_15) hT hI16 ht ((fl16 7 0 rfl).trans ((u14.2 7 0 (by omega)).trans ((fr11 7 0 rfl).trans ((fr9 7 0 rfl).trans ((fr6 7 0 rfl).trans ((fr3 7 0 rfl).trans ((u1.2 7 0 (by omega)).trans h70))))))) (by omega) (by omega) (SS.fr (SS.up (SS.fr (SS.fr v5p.2.1 fr9 rfl (fun _ => rfl) (fun _ => rfl)) fr11 rfl (fun _ => rfl) (fun _ => rfl)) u14 (by decide)) fl16 rfl (fun _ => rfl) (fun _ => rfl))) (kV (fun M26 hI26 fr26 v25p => ?_))
          have hFm26 := hFm16.call fr26 rfl
          have hFl6426 := fl16.call fr26 rfl
          refine r_iinc kx_83_74 rfl km_83_2 (by decide) ⟨by omega, by omega⟩ rfl ?_
          refine s_goto (t := 64) kx_83_77 (by decide) ?_
          exact cP.wk (lS1 rfl (lS1 rfl (lS1 rfl lS0))) (ih21 (x2_15 + (-1)) M26 hI26 hFm26 hFl6426 (by omega) (by omega))
    exact cP.wk (lS1 rfl (lS1 rfl (lS1 rfl lS0))) (key17 _ (v4 - 1) M14 hI14 hFm14 Fr.refl (by omega) (Nat.lt_succ_self _))
  · replace v5p := v5p.resolve_left (by omega)
    refine s_iconst (v := 0) kx_83_27 (by decide) ?_
    exact s_iret kx_83_28 (Or.inl kq_83) ⟨_, _, rfl, rfl, hI6, hFm6, trivial⟩
