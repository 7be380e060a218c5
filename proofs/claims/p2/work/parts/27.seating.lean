theorem kx_80_0 : x_code k_P 80 0 = some (.aload_n 0, 1) := by decide +kernel
theorem kx_80_1 : x_code k_P 80 1 = some (.getfield 48, 3) := by decide +kernel
theorem kp_80_48 : x_pool k_P 80 48 = (1, 5, 0) := by decide +kernel
theorem kx_80_4 : x_code k_P 80 4 = some (.astore_n 3, 1) := by decide +kernel
theorem km_80_3 : 3 < x_maxL k_P 80 := by decide +kernel
theorem kx_80_5 : x_code k_P 80 5 = some (.aload_n 0, 1) := by decide +kernel
theorem kx_80_6 : x_code k_P 80 6 = some (.iload_n 1, 1) := by decide +kernel
theorem kx_80_7 : x_code k_P 80 7 = some (.iconst (-1), 1) := by decide +kernel
theorem kx_80_8 : x_code k_P 80 8 = some (.invokevirtual 54, 3) := by decide +kernel
theorem kp_80_54 : x_pool k_P 80 54 = (2, 56, 2) := by decide +kernel
theorem kx_80_11 : x_code k_P 80 11 = some (.istore 4, 2) := by decide +kernel
theorem km_80_4 : 4 < x_maxL k_P 80 := by decide +kernel
theorem kx_80_13 : x_code k_P 80 13 = some (.iconst 0, 1) := by decide +kernel
theorem kx_80_14 : x_code k_P 80 14 = some (.istore 5, 2) := by decide +kernel
theorem km_80_5 : 5 < x_maxL k_P 80 := by decide +kernel
theorem kx_80_16 : x_code k_P 80 16 = some (.iload 5, 2) := by decide +kernel
theorem kx_80_18 : x_code k_P 80 18 = some (.aload_n 3, 1) := by decide +kernel
theorem kx_80_19 : x_code k_P 80 19 = some (.getfield 58, 3) := by decide +kernel
theorem kp_80_58 : x_pool k_P 80 58 = (1, 9, 1) := by decide +kernel
theorem kx_80_22 : x_code k_P 80 22 = some (.if_icmp .ge 95, 3) := by decide +kernel
theorem kx_80_117 : x_code k_P 80 117 = some (.iload 4, 2) := by decide +kernel
theorem kx_80_119 : x_code k_P 80 119 = some (.aload_n 3, 1) := by decide +kernel
theorem kx_80_120 : x_code k_P 80 120 = some (.getfield 82, 3) := by decide +kernel
theorem kp_80_82 : x_pool k_P 80 82 = (1, 9, 6) := by decide +kernel
theorem kx_80_123 : x_code k_P 80 123 = some (.iload_n 1, 1) := by decide +kernel
theorem kx_80_124 : x_code k_P 80 124 = some (.iaload, 1) := by decide +kernel
theorem kx_80_125 : x_code k_P 80 125 = some (.if_icmp .gt 7, 3) := by decide +kernel
theorem kx_80_132 : x_code k_P 80 132 = some (.iconst 0, 1) := by decide +kernel
theorem kx_80_133 : x_code k_P 80 133 = some (.ireturn, 1) := by decide +kernel
theorem kq_80 : x_retk k_P 80 = 2 := by decide +kernel
theorem kx_80_128 : x_code k_P 80 128 = some (.iconst 1, 1) := by decide +kernel
theorem kx_80_129 : x_code k_P 80 129 = some (.goto 4, 3) := by decide +kernel
theorem kx_80_25 : x_code k_P 80 25 = some (.iload_n 2, 1) := by decide +kernel
theorem kx_80_26 : x_code k_P 80 26 = some (.iload 5, 2) := by decide +kernel
theorem kx_80_28 : x_code k_P 80 28 = some (.ishr, 1) := by decide +kernel
theorem kx_80_29 : x_code k_P 80 29 = some (.iconst 1, 1) := by decide +kernel
theorem kx_80_30 : x_code k_P 80 30 = some (.iand, 1) := by decide +kernel
theorem kx_80_31 : x_code k_P 80 31 = some (.ifCond .ne 6, 3) := by decide +kernel
theorem kx_80_37 : x_code k_P 80 37 = some (.aload_n 3, 1) := by decide +kernel
theorem kx_80_38 : x_code k_P 80 38 = some (.getfield 63, 3) := by decide +kernel
theorem kp_80_63 : x_pool k_P 80 63 = (1, 9, 12) := by decide +kernel
theorem kx_80_41 : x_code k_P 80 41 = some (.iload 5, 2) := by decide +kernel
theorem kx_80_43 : x_code k_P 80 43 = some (.iaload, 1) := by decide +kernel
theorem kx_80_44 : x_code k_P 80 44 = some (.istore 6, 2) := by decide +kernel
theorem km_80_6 : 6 < x_maxL k_P 80 := by decide +kernel
theorem kx_80_46 : x_code k_P 80 46 = some (.aload_n 0, 1) := by decide +kernel
theorem kx_80_47 : x_code k_P 80 47 = some (.iload 5, 2) := by decide +kernel
theorem kx_80_49 : x_code k_P 80 49 = some (.invokevirtual 66, 3) := by decide +kernel
theorem kp_80_66 : x_pool k_P 80 66 = (2, 45, 1) := by decide +kernel
theorem kx_80_52 : x_code k_P 80 52 = some (.ifCond .ne 18, 3) := by decide +kernel
theorem kx_80_70 : x_code k_P 80 70 = some (.iconst 0, 1) := by decide +kernel
theorem kx_80_71 : x_code k_P 80 71 = some (.ireturn, 1) := by decide +kernel
theorem kx_80_55 : x_code k_P 80 55 = some (.iload 6, 2) := by decide +kernel
theorem kx_80_57 : x_code k_P 80 57 = some (.iconst (-1), 1) := by decide +kernel
theorem kx_80_58 : x_code k_P 80 58 = some (.if_icmp .eq 14, 3) := by decide +kernel
theorem kx_80_72 : x_code k_P 80 72 = some (.aload_n 0, 1) := by decide +kernel
theorem kx_80_73 : x_code k_P 80 73 = some (.iload 5, 2) := by decide +kernel
theorem kx_80_75 : x_code k_P 80 75 = some (.invokevirtual 70, 3) := by decide +kernel
theorem kp_80_70 : x_pool k_P 80 70 = (2, 44, 1) := by decide +kernel
theorem kx_80_78 : x_code k_P 80 78 = some (.iload_n 1, 1) := by decide +kernel
theorem kx_80_79 : x_code k_P 80 79 = some (.if_icmp .eq 32, 3) := by decide +kernel
theorem kx_80_111 : x_code k_P 80 111 = some (.iinc 5 1, 3) := by decide +kernel
theorem kx_80_114 : x_code k_P 80 114 = some (.goto (-98), 3) := by decide +kernel
theorem kx_80_82 : x_code k_P 80 82 = some (.aload_n 3, 1) := by decide +kernel
theorem kx_80_83 : x_code k_P 80 83 = some (.iload 5, 2) := by decide +kernel
theorem kx_80_85 : x_code k_P 80 85 = some (.invokevirtual 73, 3) := by decide +kernel
theorem kp_80_73 : x_pool k_P 80 73 = (2, 116, 1) := by decide +kernel
theorem kx_80_88 : x_code k_P 80 88 = some (.aload_n 3, 1) := by decide +kernel
theorem kx_80_89 : x_code k_P 80 89 = some (.getfield 76, 3) := by decide +kernel
theorem kp_80_76 : x_pool k_P 80 76 = (1, 9, 5) := by decide +kernel
theorem kx_80_92 : x_code k_P 80 92 = some (.iload_n 1, 1) := by decide +kernel
theorem kx_80_93 : x_code k_P 80 93 = some (.iaload, 1) := by decide +kernel
theorem kx_80_94 : x_code k_P 80 94 = some (.if_icmp .le 5, 3) := by decide +kernel
theorem kx_80_99 : x_code k_P 80 99 = some (.iload 4, 2) := by decide +kernel
theorem kx_80_101 : x_code k_P 80 101 = some (.aload_n 3, 1) := by decide +kernel
theorem kx_80_102 : x_code k_P 80 102 = some (.getfield 79, 3) := by decide +kernel
theorem kp_80_79 : x_pool k_P 80 79 = (1, 9, 11) := by decide +kernel
theorem kx_80_105 : x_code k_P 80 105 = some (.iload 5, 2) := by decide +kernel
theorem kx_80_107 : x_code k_P 80 107 = some (.iaload, 1) := by decide +kernel
theorem kx_80_108 : x_code k_P 80 108 = some (.iadd, 1) := by decide +kernel
theorem kx_80_109 : x_code k_P 80 109 = some (.istore 4, 2) := by decide +kernel
theorem kx_80_97 : x_code k_P 80 97 = some (.iconst 0, 1) := by decide +kernel
theorem kx_80_98 : x_code k_P 80 98 = some (.ireturn, 1) := by decide +kernel
theorem kx_80_61 : x_code k_P 80 61 = some (.iload_n 2, 1) := by decide +kernel
theorem kx_80_62 : x_code k_P 80 62 = some (.iload 6, 2) := by decide +kernel
theorem kx_80_64 : x_code k_P 80 64 = some (.ishr, 1) := by decide +kernel
theorem kx_80_65 : x_code k_P 80 65 = some (.iconst 1, 1) := by decide +kernel
theorem kx_80_66 : x_code k_P 80 66 = some (.iand, 1) := by decide +kernel
theorem kx_80_67 : x_code k_P 80 67 = some (.ifCond .ne 5, 3) := by decide +kernel
theorem kx_80_34 : x_code k_P 80 34 = some (.goto 77, 3) := by decide +kernel
theorem m_80 {xs : Nat → Int} {Ln d : Nat} {T : List cK} {M : cM} (hT : TT T) (hI : Rng M) {t : Nat} (ht : t = 8 ∨ t = 25) (h70 : M 7 0 = ((t : Nat) : Int)) {room some : Int} (p0 : 0 ≤ room ∧ room ≤ 7) : cC k_P xs Ln (d + 2) 80 [rf 7, (0, room), (0, some)] (T, M) (qF T M 0 (fun v => 0 ≤ v ∧ v ≤ 1)) := by
  show cP k_P xs Ln (d + 2) 80 0 [(0, rf 7), (1, (0, room)), (2, (0, some))] [] (T, M) _
  refine s_aload_n kx_80_0 rfl ?_
  refine r_getR (k := 7) (f := 0) (k2 := t) kx_80_1 kp_80_48 (tk_7 hT) kf_5_0 (by decide) h70 ?_
  refine s_astore_n kx_80_4 km_80_3 rfl ?_
  refine s_aload_n kx_80_5 rfl ?_
  refine s_iload_n kx_80_6 rfl ?_
  refine s_iconst (v := (-1)) kx_80_7 (by decide) ?_
  refine s_callV2 (k := 7) (s1 := 3) (s2 := 0) (as := [(0, (-1)), (0, room)]) (rest := []) kx_80_8 kp_80_54 (Or.inl rfl) rfl (tk_7 hT) ki_56 kcl_56 rfl rfl (by decide) (m_56 (d := d) (room := room) (without := (-1)) hT hI ht h70) (kF (fun v1 v1p => ?_))
  refine s_istore kx_80_11 km_80_4 rfl ?_
  refine s_iconst (v := 0) kx_80_13 (by decide) ?_
  refine s_istore kx_80_14 km_80_5 rfl ?_
  have key4 : ∀ n5 : Nat, ∀ (x4_2 x5_3 : Int), (0 ≤ x5_3) → (2147483647 - x5_3).toNat < n5 → cP k_P xs Ln (d + 2) 80 16 [(0, rf 7), (1, (0, room)), (2, (0, some)), (3, rf t), (4, (0, x4_2)), (5, (0, x5_3))] [] (T, M) (qF T M 0 (fun v => 0 ≤ v ∧ v ≤ 1)) := by
    intro n5
    induction n5 with
    | zero => intro x4_2 x5_3 i6 hm7; exact absurd hm7 (Nat.not_lt_zero _)
    | succ n5 ih8 =>
      intro x4_2 x5_3 i6 hm7
      refine s_iload kx_80_16 rfl ?_
      refine s_aload_n kx_80_18 rfl ?_
      refine r_getI (k := t) (f := 1) kx_80_19 kp_80_58 (tkt_0 hT ht) kf_9_1 (fun _ => rfl) (rgt_0_1 hI ht) (fun v9 v9e v9a v9b => ?_)
      refine s_icmp_ge (t := 117) kx_80_22 (by decide) (fun hc10 => ?_) (fun hc10 => ?_)
      · refine s_iload kx_80_117 rfl ?_
        refine s_aload_n kx_80_119 rfl ?_
        refine r_getR (k := t) (f := 6) (k2 := (t + 3)) kx_80_120 kp_80_82 (tkt_0 hT ht) kf_9_6 (by decide) (rqt_6 hI ht) ?_
        refine s_iload_n kx_80_123 rfl ?_
        refine r_aldU (k := (t + 3)) kx_80_124 (tkt_3 hT ht) ⟨by omega, by omega⟩ (fun v11 v11e => ?_)
        refine s_icmp_gt (t := 132) kx_80_125 (by decide) (fun hc12 => ?_) (fun hc12 => ?_)
        · refine s_iconst (v := 0) kx_80_132 (by decide) ?_
          exact s_iret kx_80_133 (Or.inr ⟨kq_80, by omega⟩) ⟨_, rfl, rfl, (by omega)⟩
        · refine s_iconst (v := 1) kx_80_128 (by decide) ?_
          refine s_goto (t := 133) kx_80_129 (by decide) ?_
          exact s_iret kx_80_133 (Or.inr ⟨kq_80, by omega⟩) ⟨_, rfl, rfl, (by omega)⟩
      · refine s_iload_n kx_80_25 rfl ?_
        refine s_iload kx_80_26 rfl ?_
        refine r_ishrR kx_80_28 (fun v13 v13a v13b => ?_)
        refine s_iconst (v := 1) kx_80_29 (by decide) ?_
        refine r_iandM kx_80_30 (by decide) (by decide) (fun v14 v14a v14b => ?_)
        refine s_if_ne (t := 37) kx_80_31 (by decide) (fun hc15 => ?_) (fun hc15 => ?_)
        · refine s_aload_n kx_80_37 rfl ?_
          refine r_getR (k := t) (f := 12) (k2 := (t + 9)) kx_80_38 kp_80_63 (tkt_0 hT ht) kf_9_12 (by decide) (rqt_12 hI ht) ?_
          refine s_iload kx_80_41 rfl ?_
          refine r_aldU (k := (t + 9)) kx_80_43 (tkt_9 hT ht) ⟨by omega, by omega⟩ (fun v16 v16e => ?_)
          refine s_istore kx_80_44 km_80_6 rfl ?_
          refine s_aload_n kx_80_46 rfl ?_
          refine s_iload kx_80_47 rfl ?_
          refine s_callV2 (k := 7) (s1 := 2) (s2 := 0) (as := [(0, x5_3)]) (rest := []) kx_80_49 kp_80_66 (Or.inl rfl) rfl (tk_7 hT) ki_45 kcl_45 rfl rfl (by decide) (m_45 (d := d + 1) (chair := x5_3) hT hI (by omega)) (kF (fun v17 v17p => ?_))
          refine s_if_ne (t := 70) kx_80_52 (by decide) (fun hc18 => ?_) (fun hc18 => ?_)
          · refine s_iconst (v := 0) kx_80_70 (by decide) ?_
            exact s_iret kx_80_71 (Or.inr ⟨kq_80, by omega⟩) ⟨_, rfl, rfl, (by omega)⟩
          · refine s_iload kx_80_55 rfl ?_
            refine s_iconst (v := (-1)) kx_80_57 (by decide) ?_
            refine s_icmp_eq (t := 72) kx_80_58 (by decide) (fun hc19 => ?_) (fun hc19 => ?_)
            · refine s_aload_n kx_80_72 rfl ?_
              refine s_iload kx_80_73 rfl ?_
              refine s_callV2 (k := 7) (s1 := 2) (s2 := 0) (as := [(0, x5_3)]) (rest := []) kx_80_75 kp_80_70 (Or.inl rfl) rfl (tk_7 hT) ki_44 kcl_44 rfl rfl (by decide) (m_44 (d := d + 1) (chair := x5_3) hT hI (by omega)) (kF (fun v20 v20p => ?_))
              refine s_iload_n kx_80_78 rfl ?_
              refine s_icmp_eq (t := 111) kx_80_79 (by decide) (fun hc21 => ?_) (fun hc21 => ?_)
              · refine r_iinc kx_80_111 rfl km_80_5 (by decide) ⟨by omega, by omega⟩ rfl ?_
                refine s_goto (t := 16) kx_80_114 (by decide) ?_
                exact cP.wk (lS1 rfl (lS1 rfl (lS1 rfl (lS1 rfl (lS1 rfl (lS1 rfl lS0)))))) (ih8 x4_2 (x5_3 + 1) (by omega) (by omega))
              · refine s_aload_n kx_80_82 rfl ?_
                refine s_iload kx_80_83 rfl ?_
                refine s_callV2 (k := t) (s1 := 2) (s2 := 0) (as := [(0, x5_3)]) (rest := []) kx_80_85 kp_80_73 (Or.inl rfl) rfl (tkt_0 hT ht) ki_116 kcl_116 rfl rfl (by decide) (m_116 (d := d) (chair := x5_3) hT hI ht) (kF (fun v22 v22p => ?_))
                refine s_aload_n kx_80_88 rfl ?_
                refine r_getR (k := t) (f := 5) (k2 := (t + 2)) kx_80_89 kp_80_76 (tkt_0 hT ht) kf_9_5 (by decide) (rqt_5 hI ht) ?_
                refine s_iload_n kx_80_92 rfl ?_
                refine r_aldU (k := (t + 2)) kx_80_93 (tkt_2 hT ht) ⟨by omega, by omega⟩ (fun v23 v23e => ?_)
                refine s_icmp_le (t := 99) kx_80_94 (by decide) (fun hc24 => ?_) (fun hc24 => ?_)
                · refine s_iload kx_80_99 rfl ?_
                  refine s_aload_n kx_80_101 rfl ?_
                  refine r_getR (k := t) (f := 11) (k2 := (t + 8)) kx_80_102 kp_80_79 (tkt_0 hT ht) kf_9_11 (by decide) (rqt_11 hI ht) ?_
                  refine s_iload kx_80_105 rfl ?_
                  refine r_aldU (k := (t + 8)) kx_80_107 (tkt_8 hT ht) ⟨by omega, by omega⟩ (fun v25 v25e => ?_)
                  refine r_iaddR kx_80_108 (fun v26 v26a v26b => ?_)
                  refine s_istore kx_80_109 km_80_4 rfl ?_
                  refine r_iinc kx_80_111 rfl km_80_5 (by decide) ⟨by omega, by omega⟩ rfl ?_
                  refine s_goto (t := 16) kx_80_114 (by decide) ?_
                  exact cP.wk (lS1 rfl (lS1 rfl (lS1 rfl (lS1 rfl (lS1 rfl (lS1 rfl lS0)))))) (ih8 v26 (x5_3 + 1) (by omega) (by omega))
                · refine s_iconst (v := 0) kx_80_97 (by decide) ?_
                  exact s_iret kx_80_98 (Or.inr ⟨kq_80, by omega⟩) ⟨_, rfl, rfl, (by omega)⟩
            · refine s_iload_n kx_80_61 rfl ?_
              refine s_iload kx_80_62 rfl ?_
              refine r_ishrR kx_80_64 (fun v27 v27a v27b => ?_)
              refine s_iconst (v := 1) kx_80_65 (by decide) ?_
              refine r_iandM kx_80_66 (by decide) (by decide) (fun v28 v28a v28b => ?_)
              refine s_if_ne (t := 72) kx_80_67 (by decide) (fun hc29 => ?_) (fun hc29 => ?_)
              · refine s_aload_n kx_80_72 rfl ?_
                refine s_iload kx_80_73 rfl ?_
                refine s_callV2 (k := 7) (s1 := 2) (s2 := 0) (as := [(0, x5_3)]) (rest := []) kx_80_75 kp_80_70 (Or.inl rfl) rfl (tk_7 hT) ki_44 kcl_44 rfl rfl (by decide) (m_44 (d := d + 1) (chair := x5_3) hT hI (by omega)) (kF (fun v30 v30p => ?_))
                refine s_iload_n kx_80_78 rfl ?_
                refine s_icmp_eq (t := 111) kx_80_79 (by decide) (fun hc31 => ?_) (fun hc31 => ?_)
                · refine r_iinc kx_80_111 rfl km_80_5 (by decide) ⟨by omega, by omega⟩ rfl ?_
                  refine s_goto (t := 16) kx_80_114 (by decide) ?_
                  exact cP.wk (lS1 rfl (lS1 rfl (lS1 rfl (lS1 rfl (lS1 rfl (lS1 rfl lS0)))))) (ih8 x4_2 (x5_3 + 1) (by omega) (by omega))
                · refine s_aload_n kx_80_82 rfl ?_
                  refine s_iload kx_80_83 rfl ?_
                  refine s_callV2 (k := t) (s1 := 2) (s2 := 0) (as := [(0, x5_3)]) (rest := []) kx_80_85 kp_80_73 (Or.inl rfl) rfl (tkt_0 hT ht) ki_116 kcl_116 rfl rfl (by decide) (m_116 (d := d) (chair := x5_3) hT hI ht) (kF (fun v32 v32p => ?_))
                  refine s_aload_n kx_80_88 rfl ?_
                  refine r_getR (k := t) (f := 5) (k2 := (t + 2)) kx_80_89 kp_80_76 (tkt_0 hT ht) kf_9_5 (by decide) (rqt_5 hI ht) ?_
                  refine s_iload_n kx_80_92 rfl ?_
                  refine r_aldU (k := (t + 2)) kx_80_93 (tkt_2 hT ht) ⟨by omega, by omega⟩ (fun v33 v33e => ?_)
                  refine s_icmp_le (t := 99) kx_80_94 (by decide) (fun hc34 => ?_) (fun hc34 => ?_)
                  · refine s_iload kx_80_99 rfl ?_
                    refine s_aload_n kx_80_101 rfl ?_
                    refine r_getR (k := t) (f := 11) (k2 := (t + 8)) kx_80_102 kp_80_79 (tkt_0 hT ht) kf_9_11 (by decide) (rqt_11 hI ht) ?_
                    refine s_iload kx_80_105 rfl ?_
                    refine r_aldU (k := (t + 8)) kx_80_107 (tkt_8 hT ht) ⟨by omega, by omega⟩ (fun v35 v35e => ?_)
                    refine r_iaddR kx_80_108 (fun v36 v36a v36b => ?_)
                    refine s_istore kx_80_109 km_80_4 rfl ?_
                    refine r_iinc kx_80_111 rfl km_80_5 (by decide) ⟨by omega, by omega⟩ rfl ?_
                    refine s_goto (t := 16) kx_80_114 (by decide) ?_
                    exact cP.wk (lS1 rfl (lS1 rfl (lS1 rfl (lS1 rfl (lS1 rfl (lS1 rfl lS0)))))) (ih8 v36 (x5_3 + 1) (by omega) (by omega))
                  · refine s_iconst (v := 0) kx_80_97 (by decide) ?_
                    exact s_iret kx_80_98 (Or.inr ⟨kq_80, by omega⟩) ⟨_, rfl, rfl, (by omega)⟩
              · refine s_iconst (v := 0) kx_80_70 (by decide) ?_
                exact s_iret kx_80_71 (Or.inr ⟨kq_80, by omega⟩) ⟨_, rfl, rfl, (by omega)⟩
        · refine s_goto (t := 111) kx_80_34 (by decide) ?_
          refine r_iinc kx_80_111 rfl km_80_5 (by decide) ⟨by omega, by omega⟩ rfl ?_
          refine s_goto (t := 16) kx_80_114 (by decide) ?_
          exact cP.wk (lS1 rfl (lS1 rfl (lS1 rfl (lS1 rfl (lS1 rfl (lS1 rfl lS0)))))) (ih8 x4_2 (x5_3 + 1) (by omega) (by omega))
  exact cP.wk (lS1 rfl (lS1 rfl (lS1 rfl (lS1 rfl (lS1 rfl (lS1 rfl lS0)))))) (key4 _ v1 0 (by omega) (Nat.lt_succ_self _))
theorem kx_79_0 : x_code k_P 79 0 = some (.iconst 0, 1) := by decide +kernel
theorem kx_79_1 : x_code k_P 79 1 = some (.istore 4, 2) := by decide +kernel
theorem km_79_4 : 4 < x_maxL k_P 79 := by decide +kernel
theorem kx_79_3 : x_code k_P 79 3 = some (.iconst 1, 1) := by decide +kernel
theorem kx_79_4 : x_code k_P 79 4 = some (.istore 5, 2) := by decide +kernel
theorem km_79_5 : 5 < x_maxL k_P 79 := by decide +kernel
theorem kx_79_6 : x_code k_P 79 6 = some (.iload 5, 2) := by decide +kernel
theorem kx_79_8 : x_code k_P 79 8 = some (.iload_n 3, 1) := by decide +kernel
theorem kx_79_9 : x_code k_P 79 9 = some (.if_icmp .gt 57, 3) := by decide +kernel
theorem kx_79_66 : x_code k_P 79 66 = some (.iload 4, 2) := by decide +kernel
theorem kx_79_68 : x_code k_P 79 68 = some (.ireturn, 1) := by decide +kernel
theorem kq_79 : x_retk k_P 79 = 1 := by decide +kernel
theorem kx_79_12 : x_code k_P 79 12 = some (.iload 5, 2) := by decide +kernel
theorem kx_79_14 : x_code k_P 79 14 = some (.iload_n 3, 1) := by decide +kernel
theorem kx_79_15 : x_code k_P 79 15 = some (.iconst (-1), 1) := by decide +kernel
theorem kx_79_16 : x_code k_P 79 16 = some (.ixor, 1) := by decide +kernel
theorem kx_79_17 : x_code k_P 79 17 = some (.iand, 1) := by decide +kernel
theorem kx_79_18 : x_code k_P 79 18 = some (.ifCond .ne 7, 3) := by decide +kernel
theorem kx_79_25 : x_code k_P 79 25 = some (.iconst 0, 1) := by decide +kernel
theorem kx_79_21 : x_code k_P 79 21 = some (.iconst 1, 1) := by decide +kernel
theorem kx_79_22 : x_code k_P 79 22 = some (.goto 4, 3) := by decide +kernel
theorem kx_79_26 : x_code k_P 79 26 = some (.istore 6, 2) := by decide +kernel
theorem km_79_6 : 6 < x_maxL k_P 79 := by decide +kernel
theorem kx_79_28 : x_code k_P 79 28 = some (.iload 6, 2) := by decide +kernel
theorem kx_79_30 : x_code k_P 79 30 = some (.ifCond .eq 30, 3) := by decide +kernel
theorem kx_79_60 : x_code k_P 79 60 = some (.iinc 5 1, 3) := by decide +kernel
theorem kx_79_63 : x_code k_P 79 63 = some (.goto (-57), 3) := by decide +kernel
theorem kx_79_33 : x_code k_P 79 33 = some (.iload 5, 2) := by decide +kernel
theorem kx_79_35 : x_code k_P 79 35 = some (.invokestatic 38, 3) := by decide +kernel
theorem kp_79_38 : x_pool k_P 79 38 = (6, 294, 1) := by decide +kernel
theorem kcl_294 : x_maxL k_P 294 ≤ 60 ∧ 1 ≤ x_maxL k_P 294 := by decide +kernel
theorem kx_79_38 : x_code k_P 79 38 = some (.iload 4, 2) := by decide +kernel
theorem kx_79_40 : x_code k_P 79 40 = some (.invokestatic 38, 3) := by decide +kernel
theorem kx_79_43 : x_code k_P 79 43 = some (.if_icmp .le 17, 3) := by decide +kernel
theorem kx_79_46 : x_code k_P 79 46 = some (.aload_n 1, 1) := by decide +kernel
theorem kx_79_47 : x_code k_P 79 47 = some (.iload_n 2, 1) := by decide +kernel
theorem kx_79_48 : x_code k_P 79 48 = some (.iload 5, 2) := by decide +kernel
theorem kx_79_50 : x_code k_P 79 50 = some (.invokestatic 44, 3) := by decide +kernel
theorem kp_79_44 : x_pool k_P 79 44 = (6, 80, 3) := by decide +kernel
theorem kcl_80 : x_maxL k_P 80 ≤ 60 ∧ 3 ≤ x_maxL k_P 80 := by decide +kernel
theorem kx_79_53 : x_code k_P 79 53 = some (.ifCond .eq 7, 3) := by decide +kernel
theorem kx_79_56 : x_code k_P 79 56 = some (.iload 5, 2) := by decide +kernel
theorem kx_79_58 : x_code k_P 79 58 = some (.istore 4, 2) := by decide +kernel
theorem m_79 {xs : Nat → Int} {Ln d : Nat} {T : List cK} {M : cM} (hT : TT T) (hI : Rng M) {t : Nat} (ht : t = 8 ∨ t = 25) (h70 : M 7 0 = ((t : Nat) : Int)) {room people : Int} (p0 : 0 ≤ room ∧ room ≤ 7) (p1 : people ≤ 2147483646) : cC k_P xs Ln (d + 3) 79 [rf 54, rf 7, (0, room), (0, people)] (T, M) (qF T M 0 (fun v => True)) := by
  show cP k_P xs Ln (d + 3) 79 0 [(0, rf 54), (1, rf 7), (2, (0, room)), (3, (0, people))] [] (T, M) _
  refine s_iconst (v := 0) kx_79_0 (by decide) ?_
  refine s_istore kx_79_1 km_79_4 rfl ?_
  refine s_iconst (v := 1) kx_79_3 (by decide) ?_
  refine s_istore kx_79_4 km_79_5 rfl ?_
  have key3 : ∀ n4 : Nat, ∀ (x4_1 x5_2 : Int), (1 ≤ x5_2) → (2147483647 - x5_2).toNat < n4 → cP k_P xs Ln (d + 3) 79 6 [(1, rf 7), (2, (0, room)), (3, (0, people)), (4, (0, x4_1)), (5, (0, x5_2))] [] (T, M) (qF T M 0 (fun v => True)) := by
    intro n4
    induction n4 with
    | zero => intro x4_1 x5_2 i5 hm6; exact absurd hm6 (Nat.not_lt_zero _)
    | succ n4 ih7 =>
      intro x4_1 x5_2 i5 hm6
      refine s_iload kx_79_6 rfl ?_
      refine s_iload_n kx_79_8 rfl ?_
      refine s_icmp_gt (t := 66) kx_79_9 (by decide) (fun hc8 => ?_) (fun hc8 => ?_)
      · refine s_iload kx_79_66 rfl ?_
        exact s_iret kx_79_68 (Or.inl kq_79) ⟨_, rfl, rfl, trivial⟩
      · refine s_iload kx_79_12 rfl ?_
        refine s_iload_n kx_79_14 rfl ?_
        refine s_iconst (v := (-1)) kx_79_15 (by decide) ?_
        refine r_ixorR kx_79_16 (fun v9 v9a v9b => ?_)
        refine r_iandR kx_79_17 (fun v10 v10a v10b => ?_)
        have jn15 : ∀ (y14 : Int), (0 ≤ y14) → (y14 ≤ 1) → cP k_P xs Ln (d + 3) 79 26 [(1, rf 7), (2, (0, room)), (3, (0, people)), (4, (0, x4_1)), (5, (0, x5_2))] [(0, y14)] (T, M) (qF T M 0 (fun v => True)) := by
          intro y14 a16 a17
          refine s_istore kx_79_26 km_79_6 rfl ?_
          refine s_iload kx_79_28 rfl ?_
          refine s_if_eq (t := 60) kx_79_30 (by decide) (fun hc18 => ?_) (fun hc18 => ?_)
          · refine r_iinc kx_79_60 rfl km_79_5 (by decide) ⟨by omega, by omega⟩ rfl ?_
            refine s_goto (t := 6) kx_79_63 (by decide) ?_
            exact cP.wk (lS1 rfl (lS1 rfl (lS1 rfl (lS1 rfl (lS1 rfl lS0))))) (ih7 x4_1 (x5_2 + 1) (by omega) (by omega))
          · refine s_iload kx_79_33 rfl ?_
            refine s_callS2 (s1 := 1) (s2 := 0) (as := [(0, x5_2)]) (rest := []) kx_79_35 kp_79_38 rfl kcl_294 rfl rfl (by decide) (m_294 (d := d + 2) (a := x5_2) hT hI) (kF (fun v19 v19p => ?_))
            refine s_iload kx_79_38 rfl ?_
            refine s_callS2 (s1 := 1) (s2 := 1) (as := [(0, x4_1)]) (rest := [(0, v19)]) kx_79_40 kp_79_38 rfl kcl_294 rfl rfl (by decide) (m_294 (d := d + 2) (a := x4_1) hT hI) (kF (fun v20 v20p => ?_))
            refine s_icmp_le (t := 60) kx_79_43 (by decide) (fun hc21 => ?_) (fun hc21 => ?_)
            · refine r_iinc kx_79_60 rfl km_79_5 (by decide) ⟨by omega, by omega⟩ rfl ?_
              refine s_goto (t := 6) kx_79_63 (by decide) ?_
              exact cP.wk (lS1 rfl (lS1 rfl (lS1 rfl (lS1 rfl (lS1 rfl lS0))))) (ih7 x4_1 (x5_2 + 1) (by omega) (by omega))
            · refine s_aload_n kx_79_46 rfl ?_
              refine s_iload_n kx_79_47 rfl ?_
              refine s_iload kx_79_48 rfl ?_
              refine s_callS2 (s1 := 3) (s2 := 0) (as := [(0, x5_2), (0, room), rf 7]) (rest := []) kx_79_50 kp_79_44 rfl kcl_80 rfl rfl (by decide) (m_80 (d := d) (room := room) (some := x5_2) hT hI ht h70 (by omega)) (kF (fun v22 v22p => ?_))
              refine s_if_eq (t := 60) kx_79_53 (by decide) (fun hc23 => ?_) (fun hc23 => ?_)
              · refine r_iinc kx_79_60 rfl km_79_5 (by decide) ⟨by omega, by omega⟩ rfl ?_
                refine s_goto (t := 6) kx_79_63 (by decide) ?_
                exact cP.wk (lS1 rfl (lS1 rfl (lS1 rfl (lS1 rfl (lS1 rfl lS0))))) (ih7 x4_1 (x5_2 + 1) (by omega) (by omega))
              · refine s_iload kx_79_56 rfl ?_
                refine s_istore kx_79_58 km_79_4 rfl ?_
                refine r_iinc kx_79_60 rfl km_79_5 (by decide) ⟨by omega, by omega⟩ rfl ?_
                refine s_goto (t := 6) kx_79_63 (by decide) ?_
                exact cP.wk (lS1 rfl (lS1 rfl (lS1 rfl (lS1 rfl (lS1 rfl lS0))))) (ih7 x5_2 (x5_2 + 1) (by omega) (by omega))
        refine s_if_ne (t := 25) kx_79_18 (by decide) (fun hc11 => ?_) (fun hc11 => ?_)
        · refine s_iconst (v := 0) kx_79_25 (by decide) ?_
          exact cP.wk (lS1 rfl (lS1 rfl (lS1 rfl (lS1 rfl (lS1 rfl lS0))))) (jn15 0 (by omega) (by omega))
        · refine s_iconst (v := 1) kx_79_21 (by decide) ?_
          refine s_goto (t := 26) kx_79_22 (by decide) ?_
          exact cP.wk (lS1 rfl (lS1 rfl (lS1 rfl (lS1 rfl (lS1 rfl lS0))))) (jn15 1 (by omega) (by omega))
  exact cP.wk (lS1 rfl (lS1 rfl (lS1 rfl (lS1 rfl (lS1 rfl lS0))))) (key3 _ 0 1 (by omega) (Nat.lt_succ_self _))
theorem kx_82_0 : x_code k_P 82 0 = some (.aload_n 0, 1) := by decide +kernel
theorem kx_82_1 : x_code k_P 82 1 = some (.getfield 9, 3) := by decide +kernel
theorem kp_82_9 : x_pool k_P 82 9 = (1, 6, 0) := by decide +kernel
theorem kf_6_0 : (x_cls k_P 6)[0]? = some 12 := by decide +kernel
theorem kx_82_4 : x_code k_P 82 4 = some (.iconst (-1), 1) := by decide +kernel
theorem kx_82_5 : x_code k_P 82 5 = some (.invokestatic 100, 3) := by decide +kernel
theorem kp_82_100 : x_pool k_P 82 100 = (6, 301, 2) := by decide +kernel
theorem kx_82_8 : x_code k_P 82 8 = some (.iconst 0, 1) := by decide +kernel
theorem kx_82_9 : x_code k_P 82 9 = some (.istore_n 2, 1) := by decide +kernel
theorem km_82_2 : 2 < x_maxL k_P 82 := by decide +kernel
theorem kx_82_10 : x_code k_P 82 10 = some (.iload_n 2, 1) := by decide +kernel
theorem kx_82_11 : x_code k_P 82 11 = some (.iconst 1, 1) := by decide +kernel
theorem kx_82_12 : x_code k_P 82 12 = some (.iadd, 1) := by decide +kernel
theorem kx_82_13 : x_code k_P 82 13 = some (.aload_n 1, 1) := by decide +kernel
theorem kx_82_14 : x_code k_P 82 14 = some (.getfield 85, 3) := by decide +kernel
theorem kp_82_85 : x_pool k_P 82 85 = (1, 8, 1) := by decide +kernel
theorem kx_82_17 : x_code k_P 82 17 = some (.if_icmp .ge 36, 3) := by decide +kernel
theorem kx_82_53 : x_code k_P 82 53 = some (.return_, 1) := by decide +kernel
theorem kq_82 : x_retk k_P 82 = 0 := by decide +kernel
theorem kx_82_20 : x_code k_P 82 20 = some (.aload_n 1, 1) := by decide +kernel
theorem kx_82_21 : x_code k_P 82 21 = some (.getfield 90, 3) := by decide +kernel
theorem kp_82_90 : x_pool k_P 82 90 = (1, 8, 0) := by decide +kernel
theorem kx_82_24 : x_code k_P 82 24 = some (.iload_n 2, 1) := by decide +kernel
theorem kx_82_25 : x_code k_P 82 25 = some (.iaload, 1) := by decide +kernel
theorem kx_82_26 : x_code k_P 82 26 = some (.istore_n 3, 1) := by decide +kernel
theorem km_82_3 : 3 < x_maxL k_P 82 := by decide +kernel
theorem kx_82_27 : x_code k_P 82 27 = some (.iload_n 3, 1) := by decide +kernel
theorem kx_82_28 : x_code k_P 82 28 = some (.bipush 8, 2) := by decide +kernel
theorem kx_82_30 : x_code k_P 82 30 = some (.if_icmp .ge 17, 3) := by decide +kernel
theorem kx_82_47 : x_code k_P 82 47 = some (.iinc 2 2, 3) := by decide +kernel
theorem kx_82_50 : x_code k_P 82 50 = some (.goto (-40), 3) := by decide +kernel
theorem kx_82_33 : x_code k_P 82 33 = some (.aload_n 0, 1) := by decide +kernel
theorem kx_82_34 : x_code k_P 82 34 = some (.getfield 9, 3) := by decide +kernel
theorem kx_82_37 : x_code k_P 82 37 = some (.iload_n 3, 1) := by decide +kernel
theorem kx_82_38 : x_code k_P 82 38 = some (.aload_n 1, 1) := by decide +kernel
theorem kx_82_39 : x_code k_P 82 39 = some (.getfield 90, 3) := by decide +kernel
theorem kx_82_42 : x_code k_P 82 42 = some (.iload_n 2, 1) := by decide +kernel
theorem kx_82_43 : x_code k_P 82 43 = some (.iconst 1, 1) := by decide +kernel
theorem kx_82_44 : x_code k_P 82 44 = some (.iadd, 1) := by decide +kernel
theorem kx_82_45 : x_code k_P 82 45 = some (.iaload, 1) := by decide +kernel
theorem kx_82_46 : x_code k_P 82 46 = some (.iastore, 1) := by decide +kernel
def fS_82_l10 : List (Nat × Nat) := [(55, 99999)]
def fS_82_m : List (Nat × Nat) := [(55, 99999)]
theorem m_82 {xs : Nat → Int} {Ln d : Nat} {T : List cK} {M : cM} (hT : TT T) (hI : Rng M) : cC k_P xs Ln (d + 1) 82 [rf 54, rf 1] (T, M) (qV T M fS_82_m (fun M1 => True)) := by
  show cP k_P xs Ln (d + 1) 82 0 [(0, rf 54), (1, rf 1)] [] (T, M) _
  have hFm : Fr fS_82_m M M := Fr.refl
  refine s_aload_n kx_82_0 rfl ?_
  refine r_getR (k := 54) (f := 0) (k2 := 55) kx_82_1 kp_82_9 (tk_54 hT) kf_6_0 (by decide) (rq_54_0 hI) ?_
  refine s_iconst (v := (-1)) kx_82_4 (by decide) ?_
  refine s_callS2 (s1 := 2) (s2 := 0) (as := [(0, (-1)), rf 55]) (rest := []) kx_82_5 kp_82_100 rfl kcl_301 rfl rfl (by decide) (m_301 (d := d) (val := (-1)) hT hI (k := 55) (n := 8) (tk_55 hT) (by decide) (fun _ => (ru_55 (by omega) (by omega)))) (kV (fun M2 hI2 fr2 v1p => ?_))
  have hFm2 := hFm.call fr2 rfl
  refine s_iconst (v := 0) kx_82_8 (by decide) ?_
  refine s_istore_n kx_82_9 km_82_2 rfl ?_
  have key5 : ∀ n6 : Nat, ∀ (x2_3 : Int), ∀ M4 : cM, Rng M4 → Fr fS_82_m M M4 → Fr fS_82_l10 M2 M4 → (0 ≤ x2_3) → (x2_3 ≤ 1601) → (2147483647 - x2_3).toNat < n6 → cP k_P xs Ln (d + 1) 82 10 [(0, rf 54), (1, rf 1), (2, (0, x2_3))] [] (T, M4) (qV T M fS_82_m (fun M1 => True)) := by
    intro n6
    induction n6 with
    | zero => intro x2_3 M4 hI4 hFm4 fl4 i7 i8 hm9; exact absurd hm9 (Nat.not_lt_zero _)
    | succ n6 ih10 =>
      intro x2_3 M4 hI4 hFm4 fl4 i7 i8 hm9
      refine s_iload_n kx_82_10 rfl ?_
      refine s_iconst (v := 1) kx_82_11 (by decide) ?_
      refine r_add kx_82_12 ⟨by omega, by omega⟩ ?_
      refine s_aload_n kx_82_13 rfl ?_
      refine r_getI (k := 1) (f := 1) kx_82_14 kp_82_85 (tk_1 hT) kf_8_1 (fun _ => rfl) (rg_1_1 hI4) (fun v11 v11e v11a v11b => ?_)
      have v11z : M 1 1 = v11 := (((fl4 1 1 rfl).trans (fr2 1 1 rfl))).symm.trans v11e
      refine s_icmp_ge (t := 53) kx_82_17 (by decide) (fun hc12 => ?_) (fun hc12 => ?_)
      · exact s_vret kx_82_53 kq_82 ⟨_, rfl, rfl, hI4, hFm4, trivial⟩
      · refine s_aload_n kx_82_20 rfl ?_
        refine r_getR (k := 1) (f := 0) (k2 := 2) kx_82_21 kp_82_90 (tk_1 hT) kf_8_0 (by decide) (rq_1_0 hI4) ?_
        refine s_iload_n kx_82_24 rfl ?_
        refine r_ald (k := 2) kx_82_25 (tk_2 hT) ⟨by omega, by omega⟩ (rg_2 hI4) (fun v13 v13e v13a v13b => ?_)
        refine s_istore_n kx_82_26 km_82_3 rfl ?_
        refine s_iload_n kx_82_27 rfl ?_
        refine s_bipush (v := 8) kx_82_28 (by decide) ?_
        refine s_icmp_ge (t := 47) kx_82_30 (by decide) (fun hc14 => ?_) (fun hc14 => ?_)
        · refine r_iinc kx_82_47 rfl km_82_2 (by decide) ⟨by omega, by omega⟩ rfl ?_
          refine s_goto (t := 10) kx_82_50 (by decide) ?_
          exact cP.wk (lS1 rfl (lS1 rfl (lS1 rfl lS0))) (ih10 (x2_3 + 2) M4 hI4 hFm4 fl4 (by omega) (by omega) (by omega))
        · refine s_aload_n kx_82_33 rfl ?_
          refine r_getR (k := 54) (f := 0) (k2 := 55) kx_82_34 kp_82_9 (tk_54 hT) kf_6_0 (by decide) (rq_54_0 hI4) ?_
          refine s_iload_n kx_82_37 rfl ?_
          refine s_aload_n kx_82_38 rfl ?_
          refine r_getR (k := 1) (f := 0) (k2 := 2) kx_82_39 kp_82_90 (tk_1 hT) kf_8_0 (by decide) (rq_1_0 hI4) ?_
          refine s_iload_n kx_82_42 rfl ?_
          refine s_iconst (v := 1) kx_82_43 (by decide) ?_
          refine r_add kx_82_44 ⟨by omega, by omega⟩ ?_
          refine r_ald (k := 2) kx_82_45 (tk_2 hT) ⟨by omega, by omega⟩ (rg_2 hI4) (fun v15 v15e v15a v15b => ?_)
          refine r_ast (k := 55) kx_82_46 (tk_55 hT) ⟨by omega, by omega⟩ hI4 (ru_55 (by omega) (by omega)) (fun M16 hI16 u16 => ?_)
          have hFm16 := hFm4.up u16 rfl
          have hFl1016 := fl4.up u16 rfl
          refine r_iinc kx_82_47 rfl km_82_2 (by decide) ⟨by omega, by omega⟩ rfl ?_
          refine s_goto (t := 10) kx_82_50 (by decide) ?_
          exact cP.wk (lS1 rfl (lS1 rfl (lS1 rfl lS0))) (ih10 (x2_3 + 2) M16 hI16 hFm16 hFl1016 (by omega) (by omega) (by omega))
  exact cP.wk (lS1 rfl (lS1 rfl (lS1 rfl lS0))) (key5 _ 0 M2 hI2 hFm2 Fr.refl (by omega) (by omega) (Nat.lt_succ_self _))
theorem kx_81_0 : x_code k_P 81 0 = some (.aload_n 2, 1) := by decide +kernel
theorem kx_81_1 : x_code k_P 81 1 = some (.getfield 85, 3) := by decide +kernel
theorem kp_81_85 : x_pool k_P 81 85 = (1, 8, 1) := by decide +kernel
theorem kx_81_4 : x_code k_P 81 4 = some (.iconst 2, 1) := by decide +kernel
theorem kx_81_5 : x_code k_P 81 5 = some (.if_icmp .lt 21, 3) := by decide +kernel
theorem kx_81_26 : x_code k_P 81 26 = some (.iconst 0, 1) := by decide +kernel
theorem kx_81_27 : x_code k_P 81 27 = some (.ireturn, 1) := by decide +kernel
theorem kq_81 : x_retk k_P 81 = 2 := by decide +kernel
theorem kx_81_8 : x_code k_P 81 8 = some (.aload_n 2, 1) := by decide +kernel
theorem kx_81_9 : x_code k_P 81 9 = some (.getfield 85, 3) := by decide +kernel
theorem kx_81_12 : x_code k_P 81 12 = some (.bipush 16, 2) := by decide +kernel
theorem kx_81_14 : x_code k_P 81 14 = some (.if_icmp .gt 12, 3) := by decide +kernel
theorem kx_81_17 : x_code k_P 81 17 = some (.aload_n 2, 1) := by decide +kernel
theorem kx_81_18 : x_code k_P 81 18 = some (.getfield 85, 3) := by decide +kernel
theorem kx_81_21 : x_code k_P 81 21 = some (.iconst 2, 1) := by decide +kernel
theorem kx_81_22 : x_code k_P 81 22 = some (.irem, 1) := by decide +kernel
theorem kx_81_23 : x_code k_P 81 23 = some (.ifCond .eq 5, 3) := by decide +kernel
theorem kx_81_28 : x_code k_P 81 28 = some (.iconst 0, 1) := by decide +kernel
theorem kx_81_29 : x_code k_P 81 29 = some (.istore_n 3, 1) := by decide +kernel
theorem km_81_3 : 3 < x_maxL k_P 81 := by decide +kernel
theorem kx_81_30 : x_code k_P 81 30 = some (.iconst 0, 1) := by decide +kernel
theorem kx_81_31 : x_code k_P 81 31 = some (.istore 4, 2) := by decide +kernel
theorem km_81_4 : 4 < x_maxL k_P 81 := by decide +kernel
theorem kx_81_33 : x_code k_P 81 33 = some (.iload 4, 2) := by decide +kernel
theorem kx_81_35 : x_code k_P 81 35 = some (.iconst 1, 1) := by decide +kernel
theorem kx_81_36 : x_code k_P 81 36 = some (.iadd, 1) := by decide +kernel
theorem kx_81_37 : x_code k_P 81 37 = some (.aload_n 2, 1) := by decide +kernel
theorem kx_81_38 : x_code k_P 81 38 = some (.getfield 85, 3) := by decide +kernel
theorem kx_81_41 : x_code k_P 81 41 = some (.if_icmp .ge 46, 3) := by decide +kernel
theorem kx_81_87 : x_code k_P 81 87 = some (.aload_n 0, 1) := by decide +kernel
theorem kx_81_88 : x_code k_P 81 88 = some (.aload_n 2, 1) := by decide +kernel
theorem kx_81_89 : x_code k_P 81 89 = some (.invokevirtual 96, 3) := by decide +kernel
theorem kp_81_96 : x_pool k_P 81 96 = (2, 82, 1) := by decide +kernel
theorem ki_82 : x_mci k_P 82 = 6 := by decide +kernel
theorem kcl_82 : x_maxL k_P 82 ≤ 60 ∧ 2 ≤ x_maxL k_P 82 := by decide +kernel
theorem kx_81_92 : x_code k_P 81 92 = some (.iconst 1, 1) := by decide +kernel
theorem kx_81_93 : x_code k_P 81 93 = some (.ireturn, 1) := by decide +kernel
theorem kx_81_44 : x_code k_P 81 44 = some (.aload_n 2, 1) := by decide +kernel
theorem kx_81_45 : x_code k_P 81 45 = some (.getfield 90, 3) := by decide +kernel
theorem kp_81_90 : x_pool k_P 81 90 = (1, 8, 0) := by decide +kernel
theorem kx_81_48 : x_code k_P 81 48 = some (.iload 4, 2) := by decide +kernel
theorem kx_81_50 : x_code k_P 81 50 = some (.iaload, 1) := by decide +kernel
theorem kx_81_51 : x_code k_P 81 51 = some (.istore 5, 2) := by decide +kernel
theorem km_81_5 : 5 < x_maxL k_P 81 := by decide +kernel
theorem kx_81_53 : x_code k_P 81 53 = some (.aload_n 1, 1) := by decide +kernel
theorem kx_81_54 : x_code k_P 81 54 = some (.iload 5, 2) := by decide +kernel
theorem kx_81_56 : x_code k_P 81 56 = some (.invokevirtual 93, 3) := by decide +kernel
theorem kp_81_93 : x_pool k_P 81 93 = (2, 106, 1) := by decide +kernel
theorem kx_81_59 : x_code k_P 81 59 = some (.ifCond .eq 13, 3) := by decide +kernel
theorem kx_81_72 : x_code k_P 81 72 = some (.iconst 0, 1) := by decide +kernel
theorem kx_81_73 : x_code k_P 81 73 = some (.ireturn, 1) := by decide +kernel
theorem kx_81_62 : x_code k_P 81 62 = some (.iload_n 3, 1) := by decide +kernel
theorem kx_81_63 : x_code k_P 81 63 = some (.iload 5, 2) := by decide +kernel
theorem kx_81_65 : x_code k_P 81 65 = some (.ishr, 1) := by decide +kernel
theorem kx_81_66 : x_code k_P 81 66 = some (.iconst 1, 1) := by decide +kernel
theorem kx_81_67 : x_code k_P 81 67 = some (.iand, 1) := by decide +kernel
theorem kx_81_68 : x_code k_P 81 68 = some (.iconst 1, 1) := by decide +kernel
theorem kx_81_69 : x_code k_P 81 69 = some (.if_icmp .ne 5, 3) := by decide +kernel
theorem kx_81_74 : x_code k_P 81 74 = some (.iload_n 3, 1) := by decide +kernel
theorem kx_81_75 : x_code k_P 81 75 = some (.iconst 1, 1) := by decide +kernel
theorem kx_81_76 : x_code k_P 81 76 = some (.iload 5, 2) := by decide +kernel
theorem kx_81_78 : x_code k_P 81 78 = some (.ishl, 1) := by decide +kernel
theorem kx_81_79 : x_code k_P 81 79 = some (.ior, 1) := by decide +kernel
theorem kx_81_80 : x_code k_P 81 80 = some (.istore_n 3, 1) := by decide +kernel
theorem kx_81_81 : x_code k_P 81 81 = some (.iinc 4 2, 3) := by decide +kernel
theorem kx_81_84 : x_code k_P 81 84 = some (.goto (-51), 3) := by decide +kernel
def fS_81_l33 : List (Nat × Nat) := [(55, 99999)]
def fS_81_m : List (Nat × Nat) := [(55, 99999)]
theorem m_81 {xs : Nat → Int} {Ln d : Nat} {T : List cK} {M : cM} (hT : TT T) (hI : Rng M) {t : Nat} (ht : t = 8 ∨ t = 25) : cC k_P xs Ln (d + 2) 81 [rf 54, rf t, rf 1] (T, M) (qW T M fS_81_m 0 (fun v M1 => 0 ≤ v ∧ v ≤ 1)) := by
  show cP k_P xs Ln (d + 2) 81 0 [(0, rf 54), (1, rf t), (2, rf 1)] [] (T, M) _
  have hFm : Fr fS_81_m M M := Fr.refl
  refine s_aload_n kx_81_0 rfl ?_
  refine r_getI (k := 1) (f := 1) kx_81_1 kp_81_85 (tk_1 hT) kf_8_1 (fun _ => rfl) (rg_1_1 hI) (fun v1 v1e v1a v1b => ?_)
  refine s_iconst (v := 2) kx_81_4 (by decide) ?_
  refine s_icmp_lt (t := 26) kx_81_5 (by decide) (fun hc2 => ?_) (fun hc2 => ?_)
  · refine s_iconst (v := 0) kx_81_26 (by decide) ?_
    exact s_iret kx_81_27 (Or.inr ⟨kq_81, by omega⟩) ⟨_, _, rfl, rfl, hI, hFm, (by omega)⟩
  · refine s_aload_n kx_81_8 rfl ?_
    refine r_getK (k := 1) (f := 1) kx_81_9 kp_81_85 (tk_1 hT) kf_8_1 (fun _ => rfl) v1e ?_
    refine s_bipush (v := 16) kx_81_12 (by decide) ?_
    refine s_icmp_gt (t := 26) kx_81_14 (by decide) (fun hc3 => ?_) (fun hc3 => ?_)
    · refine s_iconst (v := 0) kx_81_26 (by decide) ?_
      exact s_iret kx_81_27 (Or.inr ⟨kq_81, by omega⟩) ⟨_, _, rfl, rfl, hI, hFm, (by omega)⟩
    · refine s_aload_n kx_81_17 rfl ?_
      refine r_getK (k := 1) (f := 1) kx_81_18 kp_81_85 (tk_1 hT) kf_8_1 (fun _ => rfl) v1e ?_
      refine s_iconst (v := 2) kx_81_21 (by decide) ?_
      refine r_irem kx_81_22 (by omega) (by omega) (by omega) (by omega) ?_
      refine s_if_eq (t := 28) kx_81_23 (by decide) (fun hc4 => ?_) (fun hc4 => ?_)
      · refine s_iconst (v := 0) kx_81_28 (by decide) ?_
        refine s_istore_n kx_81_29 km_81_3 rfl ?_
        refine s_iconst (v := 0) kx_81_30 (by decide) ?_
        refine s_istore kx_81_31 km_81_4 rfl ?_
        have key8 : ∀ n9 : Nat, ∀ (x3_5 x4_6 : Int), ∀ M7 : cM, Rng M7 → Fr fS_81_m M M7 → Fr fS_81_l33 M M7 → (0 ≤ x4_6) → (x4_6 ≤ 1601) → (2147483647 - x4_6).toNat < n9 → cP k_P xs Ln (d + 2) 81 33 [(0, rf 54), (1, rf t), (2, rf 1), (3, (0, x3_5)), (4, (0, x4_6))] [] (T, M7) (qW T M fS_81_m 0 (fun v M1 => 0 ≤ v ∧ v ≤ 1)) := by
          intro n9
          induction n9 with
          | zero => intro x3_5 x4_6 M7 hI7 hFm7 fl7 i10 i11 hm12; exact absurd hm12 (Nat.not_lt_zero _)
          | succ n9 ih13 =>
            intro x3_5 x4_6 M7 hI7 hFm7 fl7 i10 i11 hm12
            refine s_iload kx_81_33 rfl ?_
            refine s_iconst (v := 1) kx_81_35 (by decide) ?_
            refine r_add kx_81_36 ⟨by omega, by omega⟩ ?_
            refine s_aload_n kx_81_37 rfl ?_
            refine r_getK (k := 1) (f := 1) kx_81_38 kp_81_85 (tk_1 hT) kf_8_1 (fun _ => rfl) ((fl7 1 1 rfl).trans v1e) ?_
            refine s_icmp_ge (t := 87) kx_81_41 (by decide) (fun hc14 => ?_) (fun hc14 => ?_)
            · refine s_aload_n kx_81_87 rfl ?_
              refine s_aload_n kx_81_88 rfl ?_
              refine s_callV2 (k := 54) (s1 := 2) (s2 := 0) (as := [rf 1]) (rest := []) kx_81_89 kp_81_96 (Or.inl rfl) rfl (tk_54 hT) ki_82 kcl_82 rfl rfl (by decide) (m_82 (d := d) hT hI7) (kV (fun M16 hI16 fr16 v15p => ?_))
              have hFm16 := hFm7.call fr16 rfl
              have hFl3316 := fl7.call fr16 rfl
              refine s_iconst (v := 1) kx_81_92 (by decide) ?_
              exact s_iret kx_81_93 (Or.inr ⟨kq_81, by omega⟩) ⟨_, _, rfl, rfl, hI16, hFm16, (by omega)⟩
            · refine s_aload_n kx_81_44 rfl ?_
              refine r_getR (k := 1) (f := 0) (k2 := 2) kx_81_45 kp_81_90 (tk_1 hT) kf_8_0 (by decide) (rq_1_0 hI7) ?_
              refine s_iload kx_81_48 rfl ?_
              refine r_ald (k := 2) kx_81_50 (tk_2 hT) ⟨by omega, by omega⟩ (rg_2 hI7) (fun v17 v17e v17a v17b => ?_)
              refine s_istore kx_81_51 km_81_5 rfl ?_
              refine s_aload_n kx_81_53 rfl ?_
              refine s_iload kx_81_54 rfl ?_
              refine s_callV2 (k := t) (s1 := 2) (s2 := 0) (as := [(0, v17)]) (rest := []) kx_81_56 kp_81_93 (Or.inl rfl) rfl (tkt_0 hT ht) ki_106 kcl_106 rfl rfl (by decide) (m_106 (d := d + 1) (room := v17) hT hI7 ht) (kF (fun v18 v18p => ?_))
              refine s_if_eq (t := 72) kx_81_59 (by decide) (fun hc19 => ?_) (fun hc19 => ?_)
              · replace v18p := v18p.resolve_left (by omega)
                refine s_iconst (v := 0) kx_81_72 (by decide) ?_
                exact s_iret kx_81_73 (Or.inr ⟨kq_81, by omega⟩) ⟨_, _, rfl, rfl, hI7, hFm7, (by omega)⟩
              · replace v18p := v18p.resolve_right (by omega)
                refine s_iload_n kx_81_62 rfl ?_
                refine s_iload kx_81_63 rfl ?_
                refine r_ishrR kx_81_65 (fun v20 v20a v20b => ?_)
                refine s_iconst (v := 1) kx_81_66 (by decide) ?_
                refine r_iandM kx_81_67 (by decide) (by decide) (fun v21 v21a v21b => ?_)
                refine s_iconst (v := 1) kx_81_68 (by decide) ?_
                refine s_icmp_ne (t := 74) kx_81_69 (by decide) (fun hc22 => ?_) (fun hc22 => ?_)
                · refine s_iload_n kx_81_74 rfl ?_
                  refine s_iconst (v := 1) kx_81_75 (by decide) ?_
                  refine s_iload kx_81_76 rfl ?_
                  refine r_ishlR kx_81_78 (fun v23 v23a v23b => ?_)
                  refine r_iorR kx_81_79 (fun v24 v24a v24b => ?_)
                  refine s_istore_n kx_81_80 km_81_3 rfl ?_
                  refine r_iinc kx_81_81 rfl km_81_4 (by decide) ⟨by omega, by omega⟩ rfl ?_
                  refine s_goto (t := 33) kx_81_84 (by decide) ?_
                  exact cP.wk (lS1 rfl (lS1 rfl (lS1 rfl (lS1 rfl (lS1 rfl lS0))))) (ih13 v24 (x4_6 + 2) M7 hI7 hFm7 fl7 (by omega) (by omega) (by omega))
                · refine s_iconst (v := 0) kx_81_72 (by decide) ?_
                  exact s_iret kx_81_73 (Or.inr ⟨kq_81, by omega⟩) ⟨_, _, rfl, rfl, hI7, hFm7, (by omega)⟩
        exact cP.wk (lS1 rfl (lS1 rfl (lS1 rfl (lS1 rfl (lS1 rfl lS0))))) (key8 _ 0 0 M hI hFm Fr.refl (by omega) (by omega) (Nat.lt_succ_self _))
      · refine s_iconst (v := 0) kx_81_26 (by decide) ?_
        exact s_iret kx_81_27 (Or.inr ⟨kq_81, by omega⟩) ⟨_, _, rfl, rfl, hI, hFm, (by omega)⟩
