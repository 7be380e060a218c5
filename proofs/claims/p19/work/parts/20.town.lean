theorem kx_297_0 : x_code k_P 297 0 = some (.iload_n 0, 1) := by decide +kernel
theorem kx_297_1 : x_code k_P 297 1 = some (.iload_n 1, 1) := by decide +kernel
theorem kx_297_2 : x_code k_P 297 2 = some (.if_icmp .lt 7, 3) := by decide +kernel
theorem kx_297_9 : x_code k_P 297 9 = some (.iload_n 1, 1) := by decide +kernel
theorem kx_297_10 : x_code k_P 297 10 = some (.ireturn, 1) := by decide +kernel
theorem kq_297 : x_retk k_P 297 = 1 := by decide +kernel
theorem kx_297_5 : x_code k_P 297 5 = some (.iload_n 0, 1) := by decide +kernel
theorem kx_297_6 : x_code k_P 297 6 = some (.goto 4, 3) := by decide +kernel
theorem m_297 {xs : Nat → Int} {Ln d : Nat} {T : List cK} {M : cM} (hT : TT T) (hI : Rng M) {a b : Int} : cC k_P xs Ln (d + 0) 297 [(0, a), (0, b)] (T, M) (qF T M 0 (fun v => (v = a ∨ v = b) ∧ a ≤ v ∧ b ≤ v)) := by
  show cP k_P xs Ln (d + 0) 297 0 [(0, (0, a)), (1, (0, b))] [] (T, M) _
  refine s_iload_n kx_297_0 rfl ?_
  refine s_iload_n kx_297_1 rfl ?_
  refine s_icmp_lt (t := 9) kx_297_2 (by decide) (fun hc1 => ?_) (fun hc1 => ?_)
  · refine s_iload_n kx_297_9 rfl ?_
    exact s_iret kx_297_10 (Or.inl kq_297) ⟨_, rfl, rfl, (by omega)⟩
  · refine s_iload_n kx_297_5 rfl ?_
    refine s_goto (t := 10) kx_297_6 (by decide) ?_
    exact s_iret kx_297_10 (Or.inl kq_297) ⟨_, rfl, rfl, (by omega)⟩
theorem kx_299_0 : x_code k_P 299 0 = some (.iload_n 0, 1) := by decide +kernel
theorem kx_299_1 : x_code k_P 299 1 = some (.iload_n 1, 1) := by decide +kernel
theorem kx_299_2 : x_code k_P 299 2 = some (.if_icmp .gt 7, 3) := by decide +kernel
theorem kx_299_9 : x_code k_P 299 9 = some (.iload_n 1, 1) := by decide +kernel
theorem kx_299_10 : x_code k_P 299 10 = some (.ireturn, 1) := by decide +kernel
theorem kq_299 : x_retk k_P 299 = 1 := by decide +kernel
theorem kx_299_5 : x_code k_P 299 5 = some (.iload_n 0, 1) := by decide +kernel
theorem kx_299_6 : x_code k_P 299 6 = some (.goto 4, 3) := by decide +kernel
theorem m_299 {xs : Nat → Int} {Ln d : Nat} {T : List cK} {M : cM} (hT : TT T) (hI : Rng M) {a b : Int} : cC k_P xs Ln (d + 0) 299 [(0, a), (0, b)] (T, M) (qF T M 0 (fun v => (v = a ∨ v = b) ∧ v ≤ a ∧ v ≤ b)) := by
  show cP k_P xs Ln (d + 0) 299 0 [(0, (0, a)), (1, (0, b))] [] (T, M) _
  refine s_iload_n kx_299_0 rfl ?_
  refine s_iload_n kx_299_1 rfl ?_
  refine s_icmp_gt (t := 9) kx_299_2 (by decide) (fun hc1 => ?_) (fun hc1 => ?_)
  · refine s_iload_n kx_299_9 rfl ?_
    exact s_iret kx_299_10 (Or.inl kq_299) ⟨_, rfl, rfl, (by omega)⟩
  · refine s_iload_n kx_299_5 rfl ?_
    refine s_goto (t := 10) kx_299_6 (by decide) ?_
    exact s_iret kx_299_10 (Or.inl kq_299) ⟨_, rfl, rfl, (by omega)⟩
theorem kx_301_0 : x_code k_P 301 0 = some (.iconst 0, 1) := by decide +kernel
theorem kx_301_1 : x_code k_P 301 1 = some (.istore_n 2, 1) := by decide +kernel
theorem km_301_2 : 2 < x_maxL k_P 301 := by decide +kernel
theorem kx_301_2 : x_code k_P 301 2 = some (.aload_n 0, 1) := by decide +kernel
theorem kx_301_3 : x_code k_P 301 3 = some (.arraylength, 1) := by decide +kernel
theorem kx_301_4 : x_code k_P 301 4 = some (.istore_n 3, 1) := by decide +kernel
theorem km_301_3 : 3 < x_maxL k_P 301 := by decide +kernel
theorem kx_301_5 : x_code k_P 301 5 = some (.iload_n 2, 1) := by decide +kernel
theorem kx_301_6 : x_code k_P 301 6 = some (.iload_n 3, 1) := by decide +kernel
theorem kx_301_7 : x_code k_P 301 7 = some (.if_icmp .ge 13, 3) := by decide +kernel
theorem kx_301_20 : x_code k_P 301 20 = some (.return_, 1) := by decide +kernel
theorem kq_301 : x_retk k_P 301 = 0 := by decide +kernel
theorem kx_301_10 : x_code k_P 301 10 = some (.aload_n 0, 1) := by decide +kernel
theorem kx_301_11 : x_code k_P 301 11 = some (.iload_n 2, 1) := by decide +kernel
theorem kx_301_12 : x_code k_P 301 12 = some (.iload_n 1, 1) := by decide +kernel
theorem kx_301_13 : x_code k_P 301 13 = some (.iastore, 1) := by decide +kernel
theorem kx_301_14 : x_code k_P 301 14 = some (.iinc 2 1, 3) := by decide +kernel
theorem kx_301_17 : x_code k_P 301 17 = some (.goto (-12), 3) := by decide +kernel
theorem m_301 {xs : Nat → Int} {Ln d : Nat} {T : List cK} {M : cM} (hT : TT T) (hI : Rng M) {val : Int} {k n : Nat} (hA : T[k]? = some (.inl (0, n))) (hn : n < 2147483648) (hx : ∀ f, r_ok k f val) : cC k_P xs Ln (d + 0) 301 [rf k, (0, val)] (T, M) (qV T M [(k, 99999)] (fun M1 => True)) := by
  show cP k_P xs Ln (d + 0) 301 0 [(0, rf k), (1, (0, val))] [] (T, M) _
  have hFm : Fr [(k, 99999)] M M := Fr.refl
  refine s_iconst (v := 0) kx_301_0 (by decide) ?_
  refine s_istore_n kx_301_1 km_301_2 rfl ?_
  refine s_aload_n kx_301_2 rfl ?_
  refine r_alen (k := k) kx_301_3 hA ⟨by decide, by omega⟩ ?_
  refine s_istore_n kx_301_4 km_301_3 rfl ?_
  have key3 : ∀ n4 : Nat, ∀ (x2_1 : Int), ∀ M2 : cM, Rng M2 → Fr [(k, 99999)] M M2 → Fr [(k, 99999)] M M2 → (0 ≤ x2_1) → (2147483647 - x2_1).toNat < n4 → cP k_P xs Ln (d + 0) 301 5 [(0, rf k), (1, (0, val)), (2, (0, x2_1)), (3, (0, ((n : Nat) : Int)))] [] (T, M2) (qV T M [(k, 99999)] (fun M1 => True)) := by
    intro n4
    induction n4 with
    | zero => intro x2_1 M2 hI2 hFm2 fl2 i5 hm6; exact absurd hm6 (Nat.not_lt_zero _)
    | succ n4 ih7 =>
      intro x2_1 M2 hI2 hFm2 fl2 i5 hm6
      refine s_iload_n kx_301_5 rfl ?_
      refine s_iload_n kx_301_6 rfl ?_
      refine s_icmp_ge (t := 20) kx_301_7 (by decide) (fun hc8 => ?_) (fun hc8 => ?_)
      · exact s_vret kx_301_20 kq_301 ⟨_, rfl, rfl, hI2, hFm2, trivial⟩
      · refine s_aload_n kx_301_10 rfl ?_
        refine s_iload_n kx_301_11 rfl ?_
        refine s_iload_n kx_301_12 rfl ?_
        refine r_ast (k := k) kx_301_13 hA ⟨by omega, by omega⟩ hI2 (hx _) (fun M9 hI9 u9 => ?_)
        have hFm9 := hFm2.up u9 (by simp [c_in])
        have hFl59 := fl2.up u9 (by simp [c_in])
        refine r_iinc kx_301_14 rfl km_301_2 (by decide) ⟨by omega, by omega⟩ rfl ?_
        refine s_goto (t := 5) kx_301_17 (by decide) ?_
        exact cP.wk (lS1 rfl (lS1 rfl (lS1 rfl (lS1 rfl lS0)))) (ih7 (x2_1 + 1) M9 hI9 hFm9 hFl59 (by omega) (by omega))
  exact cP.wk (lS1 rfl (lS1 rfl (lS1 rfl (lS1 rfl lS0)))) (key3 _ 0 M hI hFm Fr.refl (by omega) (Nat.lt_succ_self _))
theorem kx_106_0 : x_code k_P 106 0 = some (.iload_n 1, 1) := by decide +kernel
theorem kx_106_1 : x_code k_P 106 1 = some (.ifCond .lt 15, 3) := by decide +kernel
theorem kx_106_16 : x_code k_P 106 16 = some (.iconst 0, 1) := by decide +kernel
theorem kx_106_17 : x_code k_P 106 17 = some (.ireturn, 1) := by decide +kernel
theorem kq_106 : x_retk k_P 106 = 2 := by decide +kernel
theorem kx_106_4 : x_code k_P 106 4 = some (.iload_n 1, 1) := by decide +kernel
theorem kx_106_5 : x_code k_P 106 5 = some (.aload_n 0, 1) := by decide +kernel
theorem kx_106_6 : x_code k_P 106 6 = some (.getfield 9, 3) := by decide +kernel
theorem kp_106_9 : x_pool k_P 106 9 = (1, 9, 0) := by decide +kernel
theorem kf_9_0 : (x_cls k_P 9)[0]? = some 0 := by decide +kernel
theorem kx_106_9 : x_code k_P 106 9 = some (.if_icmp .ge 7, 3) := by decide +kernel
theorem kx_106_12 : x_code k_P 106 12 = some (.iconst 1, 1) := by decide +kernel
theorem kx_106_13 : x_code k_P 106 13 = some (.goto 4, 3) := by decide +kernel
theorem m_106 {xs : Nat → Int} {Ln d : Nat} {T : List cK} {M : cM} (hT : TT T) (hI : Rng M) {t : Nat} (ht : t = 8 ∨ t = 25) {room : Int} : cC k_P xs Ln (d + 0) 106 [rf t, (0, room)] (T, M) (qF T M 0 (fun v => (v = 1 ∧ 0 ≤ room ∧ room < M t 0 ∧ room ≤ 7) ∨ (v = 0 ∧ (room < 0 ∨ M t 0 ≤ room)))) := by
  show cP k_P xs Ln (d + 0) 106 0 [(0, rf t), (1, (0, room))] [] (T, M) _
  refine s_iload_n kx_106_0 rfl ?_
  refine s_if_lt (t := 16) kx_106_1 (by decide) (fun hc1 => ?_) (fun hc1 => ?_)
  · refine s_iconst (v := 0) kx_106_16 (by decide) ?_
    exact s_iret kx_106_17 (Or.inr ⟨kq_106, by omega⟩) ⟨_, rfl, rfl, (by omega)⟩
  · refine s_iload_n kx_106_4 rfl ?_
    refine s_aload_n kx_106_5 rfl ?_
    refine r_getI (k := t) (f := 0) kx_106_6 kp_106_9 (tkt_0 hT ht) kf_9_0 (fun _ => rfl) (rgt_0_0 hI ht) (fun v2 v2e v2a v2b => ?_)
    refine s_icmp_ge (t := 16) kx_106_9 (by decide) (fun hc3 => ?_) (fun hc3 => ?_)
    · refine s_iconst (v := 0) kx_106_16 (by decide) ?_
      exact s_iret kx_106_17 (Or.inr ⟨kq_106, by omega⟩) ⟨_, rfl, rfl, (by omega)⟩
    · refine s_iconst (v := 1) kx_106_12 (by decide) ?_
      refine s_goto (t := 17) kx_106_13 (by decide) ?_
      exact s_iret kx_106_17 (Or.inr ⟨kq_106, by omega⟩) ⟨_, rfl, rfl, (by omega)⟩
theorem kx_107_0 : x_code k_P 107 0 = some (.iload_n 1, 1) := by decide +kernel
theorem kx_107_1 : x_code k_P 107 1 = some (.ifCond .lt 15, 3) := by decide +kernel
theorem kx_107_16 : x_code k_P 107 16 = some (.iconst 0, 1) := by decide +kernel
theorem kx_107_17 : x_code k_P 107 17 = some (.ireturn, 1) := by decide +kernel
theorem kq_107 : x_retk k_P 107 = 2 := by decide +kernel
theorem kx_107_4 : x_code k_P 107 4 = some (.iload_n 1, 1) := by decide +kernel
theorem kx_107_5 : x_code k_P 107 5 = some (.aload_n 0, 1) := by decide +kernel
theorem kx_107_6 : x_code k_P 107 6 = some (.getfield 15, 3) := by decide +kernel
theorem kp_107_15 : x_pool k_P 107 15 = (1, 9, 1) := by decide +kernel
theorem kf_9_1 : (x_cls k_P 9)[1]? = some 0 := by decide +kernel
theorem kx_107_9 : x_code k_P 107 9 = some (.if_icmp .ge 7, 3) := by decide +kernel
theorem kx_107_12 : x_code k_P 107 12 = some (.iconst 1, 1) := by decide +kernel
theorem kx_107_13 : x_code k_P 107 13 = some (.goto 4, 3) := by decide +kernel
theorem m_107 {xs : Nat → Int} {Ln d : Nat} {T : List cK} {M : cM} (hT : TT T) (hI : Rng M) {t : Nat} (ht : t = 8 ∨ t = 25) {person : Int} : cC k_P xs Ln (d + 0) 107 [rf t, (0, person)] (T, M) (qF T M 0 (fun v => (v = 1 ∧ 0 ≤ person ∧ person < M t 1 ∧ person ≤ 7) ∨ (v = 0 ∧ (person < 0 ∨ M t 1 ≤ person)))) := by
  show cP k_P xs Ln (d + 0) 107 0 [(0, rf t), (1, (0, person))] [] (T, M) _
  refine s_iload_n kx_107_0 rfl ?_
  refine s_if_lt (t := 16) kx_107_1 (by decide) (fun hc1 => ?_) (fun hc1 => ?_)
  · refine s_iconst (v := 0) kx_107_16 (by decide) ?_
    exact s_iret kx_107_17 (Or.inr ⟨kq_107, by omega⟩) ⟨_, rfl, rfl, (by omega)⟩
  · refine s_iload_n kx_107_4 rfl ?_
    refine s_aload_n kx_107_5 rfl ?_
    refine r_getI (k := t) (f := 1) kx_107_6 kp_107_15 (tkt_0 hT ht) kf_9_1 (fun _ => rfl) (rgt_0_1 hI ht) (fun v2 v2e v2a v2b => ?_)
    refine s_icmp_ge (t := 16) kx_107_9 (by decide) (fun hc3 => ?_) (fun hc3 => ?_)
    · refine s_iconst (v := 0) kx_107_16 (by decide) ?_
      exact s_iret kx_107_17 (Or.inr ⟨kq_107, by omega⟩) ⟨_, rfl, rfl, (by omega)⟩
    · refine s_iconst (v := 1) kx_107_12 (by decide) ?_
      refine s_goto (t := 17) kx_107_13 (by decide) ?_
      exact s_iret kx_107_17 (Or.inr ⟨kq_107, by omega⟩) ⟨_, rfl, rfl, (by omega)⟩
theorem kx_110_0 : x_code k_P 110 0 = some (.iconst 0, 1) := by decide +kernel
theorem kx_110_1 : x_code k_P 110 1 = some (.istore_n 3, 1) := by decide +kernel
theorem km_110_3 : 3 < x_maxL k_P 110 := by decide +kernel
theorem kx_110_2 : x_code k_P 110 2 = some (.iload_n 3, 1) := by decide +kernel
theorem kx_110_3 : x_code k_P 110 3 = some (.iload_n 1, 1) := by decide +kernel
theorem kx_110_4 : x_code k_P 110 4 = some (.if_icmp .ge 24, 3) := by decide +kernel
theorem kx_110_28 : x_code k_P 110 28 = some (.iconst (-1), 1) := by decide +kernel
theorem kx_110_29 : x_code k_P 110 29 = some (.ireturn, 1) := by decide +kernel
theorem kq_110 : x_retk k_P 110 = 1 := by decide +kernel
theorem kx_110_7 : x_code k_P 110 7 = some (.iload_n 3, 1) := by decide +kernel
theorem kx_110_8 : x_code k_P 110 8 = some (.aload_n 0, 1) := by decide +kernel
theorem kx_110_9 : x_code k_P 110 9 = some (.arraylength, 1) := by decide +kernel
theorem kx_110_10 : x_code k_P 110 10 = some (.if_icmp .ge 18, 3) := by decide +kernel
theorem kx_110_13 : x_code k_P 110 13 = some (.aload_n 0, 1) := by decide +kernel
theorem kx_110_14 : x_code k_P 110 14 = some (.iload_n 3, 1) := by decide +kernel
theorem kx_110_15 : x_code k_P 110 15 = some (.iaload, 1) := by decide +kernel
theorem kx_110_16 : x_code k_P 110 16 = some (.iload_n 2, 1) := by decide +kernel
theorem kx_110_17 : x_code k_P 110 17 = some (.if_icmp .ne 5, 3) := by decide +kernel
theorem kx_110_22 : x_code k_P 110 22 = some (.iinc 3 1, 3) := by decide +kernel
theorem kx_110_25 : x_code k_P 110 25 = some (.goto (-23), 3) := by decide +kernel
theorem kx_110_20 : x_code k_P 110 20 = some (.iload_n 3, 1) := by decide +kernel
theorem kx_110_21 : x_code k_P 110 21 = some (.ireturn, 1) := by decide +kernel
theorem m_110 {xs : Nat → Int} {Ln d : Nat} {T : List cK} {M : cM} (hT : TT T) (hI : Rng M) {many name : Int} {k n : Nat} (hA : T[k]? = some (.inl (0, n))) (hn : n < 2147483648) : cC k_P xs Ln (d + 0) 110 [rf k, (0, many), (0, name)] (T, M) (qF T M 0 (fun v => -1 ≤ v ∧ v < n ∧ (v = -1 ∨ v < many))) := by
  show cP k_P xs Ln (d + 0) 110 0 [(0, rf k), (1, (0, many)), (2, (0, name))] [] (T, M) _
  refine s_iconst (v := 0) kx_110_0 (by decide) ?_
  refine s_istore_n kx_110_1 km_110_3 rfl ?_
  have key2 : ∀ n3 : Nat, ∀ (x3_1 : Int), (0 ≤ x3_1) → (2147483647 - x3_1).toNat < n3 → cP k_P xs Ln (d + 0) 110 2 [(0, rf k), (1, (0, many)), (2, (0, name)), (3, (0, x3_1))] [] (T, M) (qF T M 0 (fun v => -1 ≤ v ∧ v < n ∧ (v = -1 ∨ v < many))) := by
    intro n3
    induction n3 with
    | zero => intro x3_1 i4 hm5; exact absurd hm5 (Nat.not_lt_zero _)
    | succ n3 ih6 =>
      intro x3_1 i4 hm5
      refine s_iload_n kx_110_2 rfl ?_
      refine s_iload_n kx_110_3 rfl ?_
      refine s_icmp_ge (t := 28) kx_110_4 (by decide) (fun hc7 => ?_) (fun hc7 => ?_)
      · refine s_iconst (v := (-1)) kx_110_28 (by decide) ?_
        exact s_iret kx_110_29 (Or.inl kq_110) ⟨_, rfl, rfl, (by omega)⟩
      · refine s_iload_n kx_110_7 rfl ?_
        refine s_aload_n kx_110_8 rfl ?_
        refine r_alen (k := k) kx_110_9 hA ⟨by decide, by omega⟩ ?_
        refine s_icmp_ge (t := 28) kx_110_10 (by decide) (fun hc8 => ?_) (fun hc8 => ?_)
        · refine s_iconst (v := (-1)) kx_110_28 (by decide) ?_
          exact s_iret kx_110_29 (Or.inl kq_110) ⟨_, rfl, rfl, (by omega)⟩
        · refine s_aload_n kx_110_13 rfl ?_
          refine s_iload_n kx_110_14 rfl ?_
          refine r_aldU (k := k) kx_110_15 hA ⟨by omega, by omega⟩ (fun v9 v9e => ?_)
          refine s_iload_n kx_110_16 rfl ?_
          refine s_icmp_ne (t := 22) kx_110_17 (by decide) (fun hc10 => ?_) (fun hc10 => ?_)
          · refine r_iinc kx_110_22 rfl km_110_3 (by decide) ⟨by omega, by omega⟩ rfl ?_
            refine s_goto (t := 2) kx_110_25 (by decide) ?_
            exact cP.wk (lS1 rfl (lS1 rfl (lS1 rfl (lS1 rfl lS0)))) (ih6 (x3_1 + 1) (by omega) (by omega))
          · refine s_iload_n kx_110_20 rfl ?_
            exact s_iret kx_110_21 (Or.inl kq_110) ⟨_, rfl, rfl, (by omega)⟩
  exact cP.wk (lS1 rfl (lS1 rfl (lS1 rfl (lS1 rfl lS0)))) (key2 _ 0 (by omega) (Nat.lt_succ_self _))
theorem kx_105_0 : x_code k_P 105 0 = some (.aload_n 0, 1) := by decide +kernel
theorem kx_105_1 : x_code k_P 105 1 = some (.iconst 0, 1) := by decide +kernel
theorem kx_105_2 : x_code k_P 105 2 = some (.putfield 9, 3) := by decide +kernel
theorem kp_105_9 : x_pool k_P 105 9 = (1, 9, 0) := by decide +kernel
theorem kx_105_5 : x_code k_P 105 5 = some (.aload_n 0, 1) := by decide +kernel
theorem kx_105_6 : x_code k_P 105 6 = some (.iconst 0, 1) := by decide +kernel
theorem kx_105_7 : x_code k_P 105 7 = some (.putfield 15, 3) := by decide +kernel
theorem kp_105_15 : x_pool k_P 105 15 = (1, 9, 1) := by decide +kernel
theorem kx_105_10 : x_code k_P 105 10 = some (.aload_n 0, 1) := by decide +kernel
theorem kx_105_11 : x_code k_P 105 11 = some (.iconst 0, 1) := by decide +kernel
theorem kx_105_12 : x_code k_P 105 12 = some (.putfield 18, 3) := by decide +kernel
theorem kp_105_18 : x_pool k_P 105 18 = (1, 9, 2) := by decide +kernel
theorem kf_9_2 : (x_cls k_P 9)[2]? = some 0 := by decide +kernel
theorem kx_105_15 : x_code k_P 105 15 = some (.aload_n 0, 1) := by decide +kernel
theorem kx_105_16 : x_code k_P 105 16 = some (.iconst (-1), 1) := by decide +kernel
theorem kx_105_17 : x_code k_P 105 17 = some (.putfield 21, 3) := by decide +kernel
theorem kp_105_21 : x_pool k_P 105 21 = (1, 9, 3) := by decide +kernel
theorem kf_9_3 : (x_cls k_P 9)[3]? = some 0 := by decide +kernel
theorem kx_105_20 : x_code k_P 105 20 = some (.aload_n 0, 1) := by decide +kernel
theorem kx_105_21 : x_code k_P 105 21 = some (.getfield 34, 3) := by decide +kernel
theorem kp_105_34 : x_pool k_P 105 34 = (1, 9, 7) := by decide +kernel
theorem kf_9_7 : (x_cls k_P 9)[7]? = some 12 := by decide +kernel
theorem kx_105_24 : x_code k_P 105 24 = some (.iconst 0, 1) := by decide +kernel
theorem kx_105_25 : x_code k_P 105 25 = some (.invokestatic 65, 3) := by decide +kernel
theorem kp_105_65 : x_pool k_P 105 65 = (6, 301, 2) := by decide +kernel
theorem kcl_301 : x_maxL k_P 301 ≤ 60 ∧ 2 ≤ x_maxL k_P 301 := by decide +kernel
theorem kx_105_28 : x_code k_P 105 28 = some (.aload_n 0, 1) := by decide +kernel
theorem kx_105_29 : x_code k_P 105 29 = some (.getfield 58, 3) := by decide +kernel
theorem kp_105_58 : x_pool k_P 105 58 = (1, 9, 14) := by decide +kernel
theorem kf_9_14 : (x_cls k_P 9)[14]? = some 12 := by decide +kernel
theorem kx_105_32 : x_code k_P 105 32 = some (.iconst 0, 1) := by decide +kernel
theorem kx_105_33 : x_code k_P 105 33 = some (.putfield 71, 3) := by decide +kernel
theorem kp_105_71 : x_pool k_P 105 71 = (1, 1, 2) := by decide +kernel
theorem kf_1_2 : (x_cls k_P 1)[2]? = some 0 := by decide +kernel
theorem kx_105_36 : x_code k_P 105 36 = some (.aload_n 0, 1) := by decide +kernel
theorem kx_105_37 : x_code k_P 105 37 = some (.getfield 62, 3) := by decide +kernel
theorem kp_105_62 : x_pool k_P 105 62 = (1, 9, 15) := by decide +kernel
theorem kf_9_15 : (x_cls k_P 9)[15]? = some 12 := by decide +kernel
theorem kx_105_40 : x_code k_P 105 40 = some (.iconst 0, 1) := by decide +kernel
theorem kx_105_41 : x_code k_P 105 41 = some (.putfield 71, 3) := by decide +kernel
theorem kx_105_44 : x_code k_P 105 44 = some (.return_, 1) := by decide +kernel
theorem kq_105 : x_retk k_P 105 = 0 := by decide +kernel
def fS_105_m : List (Nat × Nat) := [(12, 99999), (19, 2), (22, 2), (25, 0), (25, 1), (25, 2), (25, 3), (29, 99999), (36, 2), (39, 2), (8, 0), (8, 1), (8, 2), (8, 3)]
theorem m_105 {xs : Nat → Int} {Ln d : Nat} {T : List cK} {M : cM} (hT : TT T) (hI : Rng M) {t : Nat} (ht : t = 8 ∨ t = 25) : cC k_P xs Ln (d + 1) 105 [rf t] (T, M) (qV T M fS_105_m (fun M1 => ∀ g, fF g → M1 g 2 ≤ M g 2 ∨ M1 g 2 = 0)) := by
  show cP k_P xs Ln (d + 1) 105 0 [(0, rf t)] [] (T, M) _
  have hFm : Fr fS_105_m M M := Fr.refl
  refine s_aload_n kx_105_0 rfl ?_
  refine s_iconst (v := 0) kx_105_1 (by decide) ?_
  refine r_put (k := t) (f := 0) kx_105_2 kp_105_9 (tkt_0 hT ht) kf_9_0 rfl (by decide) (by decide) hI (rut_0_0 ht (by omega) (by omega)) (fun M1 hI1 u1 => ?_)
  have hFm1 := hFm.up u1 (by rcases ht with rfl | rfl <;> rfl)
  refine s_aload_n kx_105_5 rfl ?_
  refine s_iconst (v := 0) kx_105_6 (by decide) ?_
  refine r_put (k := t) (f := 1) kx_105_7 kp_105_15 (tkt_0 hT ht) kf_9_1 rfl (by decide) (by decide) hI1 (rut_0_1 ht (by omega) (by omega)) (fun M2 hI2 u2 => ?_)
  have hFm2 := hFm1.up u2 (by rcases ht with rfl | rfl <;> rfl)
  refine s_aload_n kx_105_10 rfl ?_
  refine s_iconst (v := 0) kx_105_11 (by decide) ?_
  refine r_put (k := t) (f := 2) kx_105_12 kp_105_18 (tkt_0 hT ht) kf_9_2 rfl (by decide) (by decide) hI2 (rut_0_2 ht) (fun M3 hI3 u3 => ?_)
  have hFm3 := hFm2.up u3 (by rcases ht with rfl | rfl <;> rfl)
  refine s_aload_n kx_105_15 rfl ?_
  refine s_iconst (v := (-1)) kx_105_16 (by decide) ?_
  refine r_put (k := t) (f := 3) kx_105_17 kp_105_21 (tkt_0 hT ht) kf_9_3 rfl (by decide) (by decide) hI3 (rut_0_3 ht) (fun M4 hI4 u4 => ?_)
  have hFm4 := hFm3.up u4 (by rcases ht with rfl | rfl <;> rfl)
  refine s_aload_n kx_105_20 rfl ?_
  refine r_getR (k := t) (f := 7) (k2 := (t + 4)) kx_105_21 kp_105_34 (tkt_0 hT ht) kf_9_7 (by decide) (rqt_7 hI4 ht) ?_
  refine s_iconst (v := 0) kx_105_24 (by decide) ?_
  refine s_callS2 (s1 := 2) (s2 := 0) (as := [(0, 0), rf (t + 4)]) (rest := []) kx_105_25 kp_105_65 rfl kcl_301 rfl rfl (by decide) (m_301 (d := d) (val := 0) hT hI4 (k := (t + 4)) (n := 64) (tkt_4 hT ht) (by decide) (fun _ => (rut_4 ht))) (kV (fun M6 hI6 fr6 v5p => ?_))
  have hFm6 := hFm4.call fr6 (by rcases ht with rfl | rfl <;> rfl)
  refine s_aload_n kx_105_28 rfl ?_
  refine r_getR (k := t) (f := 14) (k2 := (t + 11)) kx_105_29 kp_105_58 (tkt_0 hT ht) kf_9_14 (by decide) (rqt_14 hI6 ht) ?_
  refine s_iconst (v := 0) kx_105_32 (by decide) ?_
  refine r_put (k := (t + 11)) (f := 2) kx_105_33 kp_105_71 (tkf_0 hT (fF_slow ht)) kf_1_2 rfl (by decide) (by decide) hI6 (ruf_0_2 (fF_slow ht) (by omega) (by omega)) (fun M7 hI7 u7 => ?_)
  have hFm7 := hFm6.up u7 (by rcases ht with rfl | rfl <;> rfl)
  refine s_aload_n kx_105_36 rfl ?_
  refine r_getR (k := t) (f := 15) (k2 := (t + 14)) kx_105_37 kp_105_62 (tkt_0 hT ht) kf_9_15 (by decide) (rqt_15 hI7 ht) ?_
  refine s_iconst (v := 0) kx_105_40 (by decide) ?_
  refine r_put (k := (t + 14)) (f := 2) kx_105_41 kp_105_71 (tkf_0 hT (fF_stands ht)) kf_1_2 rfl (by decide) (by decide) hI7 (ruf_0_2 (fF_stands ht) (by omega) (by omega)) (fun M8 hI8 u8 => ?_)
  have hFm8 := hFm7.up u8 (by rcases ht with rfl | rfl <;> rfl)
  exact s_vret kx_105_44 kq_105 ⟨_, rfl, rfl, hI8, hFm8, (fun g hg => by have hgc := hg.cases; exact if e : g = t + 14 then Or.inr (e ▸ u8.1) else if e2 : g = t + 11 then Or.inr (e2 ▸ (u8.2 (t + 11) 2 (by omega)).trans u7.1) else Or.inl (Int.le_of_eq ((u8.2 g 2 (by omega)).trans ((u7.2 g 2 (by omega)).trans ((fr6 g 2 (by rcases hg with rfl | rfl | rfl | rfl <;> rcases ht with rfl | rfl <;> rfl)).trans ((u4.2 g 2 (by omega)).trans ((u3.2 g 2 (by omega)).trans ((u2.2 g 2 (by omega)).trans (u1.2 g 2 (by omega))))))))))⟩
theorem kx_108_0 : x_code k_P 108 0 = some (.aload_n 0, 1) := by decide +kernel
theorem kx_108_1 : x_code k_P 108 1 = some (.getfield 24, 3) := by decide +kernel
theorem kp_108_24 : x_pool k_P 108 24 = (1, 9, 4) := by decide +kernel
theorem kf_9_4 : (x_cls k_P 9)[4]? = some 12 := by decide +kernel
theorem kx_108_4 : x_code k_P 108 4 = some (.aload_n 0, 1) := by decide +kernel
theorem kx_108_5 : x_code k_P 108 5 = some (.getfield 9, 3) := by decide +kernel
theorem kp_108_9 : x_pool k_P 108 9 = (1, 9, 0) := by decide +kernel
theorem kx_108_8 : x_code k_P 108 8 = some (.iload_n 1, 1) := by decide +kernel
theorem kx_108_9 : x_code k_P 108 9 = some (.invokestatic 74, 3) := by decide +kernel
theorem kp_108_74 : x_pool k_P 108 74 = (6, 110, 3) := by decide +kernel
theorem kcl_110 : x_maxL k_P 110 ≤ 60 ∧ 3 ≤ x_maxL k_P 110 := by decide +kernel
theorem kx_108_12 : x_code k_P 108 12 = some (.ireturn, 1) := by decide +kernel
theorem kq_108 : x_retk k_P 108 = 1 := by decide +kernel
theorem m_108 {xs : Nat → Int} {Ln d : Nat} {T : List cK} {M : cM} (hT : TT T) (hI : Rng M) {t : Nat} (ht : t = 8 ∨ t = 25) {name : Int} : cC k_P xs Ln (d + 1) 108 [rf t, (0, name)] (T, M) (qF T M 0 (fun v => (-1) ≤ v ∧ v ≤ 7 ∧ (v = -1 ∨ v < M t 0))) := by
  show cP k_P xs Ln (d + 1) 108 0 [(0, rf t), (1, (0, name))] [] (T, M) _
  refine s_aload_n kx_108_0 rfl ?_
  refine r_getR (k := t) (f := 4) (k2 := (t + 1)) kx_108_1 kp_108_24 (tkt_0 hT ht) kf_9_4 (by decide) (rqt_4 hI ht) ?_
  refine s_aload_n kx_108_4 rfl ?_
  refine r_getI (k := t) (f := 0) kx_108_5 kp_108_9 (tkt_0 hT ht) kf_9_0 (fun _ => rfl) (rgt_0_0 hI ht) (fun v1 v1e v1a v1b => ?_)
  refine s_iload_n kx_108_8 rfl ?_
  refine s_callS2 (s1 := 3) (s2 := 0) (as := [(0, name), (0, v1), rf (t + 1)]) (rest := []) kx_108_9 kp_108_74 rfl kcl_110 rfl rfl (by decide) (m_110 (d := d) (many := v1) (name := name) hT hI (k := (t + 1)) (n := 8) (tkt_1 hT ht) (by decide)) (kF (fun v2 v2p => ?_))
  exact s_iret kx_108_12 (Or.inl kq_108) ⟨_, rfl, rfl, (by omega)⟩
theorem kx_109_0 : x_code k_P 109 0 = some (.aload_n 0, 1) := by decide +kernel
theorem kx_109_1 : x_code k_P 109 1 = some (.getfield 37, 3) := by decide +kernel
theorem kp_109_37 : x_pool k_P 109 37 = (1, 9, 8) := by decide +kernel
theorem kf_9_8 : (x_cls k_P 9)[8]? = some 12 := by decide +kernel
theorem kx_109_4 : x_code k_P 109 4 = some (.aload_n 0, 1) := by decide +kernel
theorem kx_109_5 : x_code k_P 109 5 = some (.getfield 15, 3) := by decide +kernel
theorem kp_109_15 : x_pool k_P 109 15 = (1, 9, 1) := by decide +kernel
theorem kx_109_8 : x_code k_P 109 8 = some (.iload_n 1, 1) := by decide +kernel
theorem kx_109_9 : x_code k_P 109 9 = some (.invokestatic 74, 3) := by decide +kernel
theorem kp_109_74 : x_pool k_P 109 74 = (6, 110, 3) := by decide +kernel
theorem kx_109_12 : x_code k_P 109 12 = some (.ireturn, 1) := by decide +kernel
theorem kq_109 : x_retk k_P 109 = 1 := by decide +kernel
theorem m_109 {xs : Nat → Int} {Ln d : Nat} {T : List cK} {M : cM} (hT : TT T) (hI : Rng M) {t : Nat} (ht : t = 8 ∨ t = 25) {name : Int} : cC k_P xs Ln (d + 1) 109 [rf t, (0, name)] (T, M) (qF T M 0 (fun v => (-1) ≤ v ∧ v ≤ 7 ∧ (v = -1 ∨ v < M t 1))) := by
  show cP k_P xs Ln (d + 1) 109 0 [(0, rf t), (1, (0, name))] [] (T, M) _
  refine s_aload_n kx_109_0 rfl ?_
  refine r_getR (k := t) (f := 8) (k2 := (t + 5)) kx_109_1 kp_109_37 (tkt_0 hT ht) kf_9_8 (by decide) (rqt_8 hI ht) ?_
  refine s_aload_n kx_109_4 rfl ?_
  refine r_getI (k := t) (f := 1) kx_109_5 kp_109_15 (tkt_0 hT ht) kf_9_1 (fun _ => rfl) (rgt_0_1 hI ht) (fun v1 v1e v1a v1b => ?_)
  refine s_iload_n kx_109_8 rfl ?_
  refine s_callS2 (s1 := 3) (s2 := 0) (as := [(0, name), (0, v1), rf (t + 5)]) (rest := []) kx_109_9 kp_109_74 rfl kcl_110 rfl rfl (by decide) (m_110 (d := d) (many := v1) (name := name) hT hI (k := (t + 5)) (n := 8) (tkt_5 hT ht) (by decide)) (kF (fun v2 v2p => ?_))
  exact s_iret kx_109_12 (Or.inl kq_109) ⟨_, rfl, rfl, (by omega)⟩
theorem kx_111_0 : x_code k_P 111 0 = some (.aload_n 0, 1) := by decide +kernel
theorem kx_111_1 : x_code k_P 111 1 = some (.getfield 9, 3) := by decide +kernel
theorem kp_111_9 : x_pool k_P 111 9 = (1, 9, 0) := by decide +kernel
theorem kx_111_4 : x_code k_P 111 4 = some (.bipush 8, 2) := by decide +kernel
theorem kx_111_6 : x_code k_P 111 6 = some (.if_icmp .ge 43, 3) := by decide +kernel
theorem kx_111_49 : x_code k_P 111 49 = some (.return_, 1) := by decide +kernel
theorem kq_111 : x_retk k_P 111 = 0 := by decide +kernel
theorem kx_111_9 : x_code k_P 111 9 = some (.aload_n 0, 1) := by decide +kernel
theorem kx_111_10 : x_code k_P 111 10 = some (.getfield 24, 3) := by decide +kernel
theorem kp_111_24 : x_pool k_P 111 24 = (1, 9, 4) := by decide +kernel
theorem kx_111_13 : x_code k_P 111 13 = some (.aload_n 0, 1) := by decide +kernel
theorem kx_111_14 : x_code k_P 111 14 = some (.getfield 9, 3) := by decide +kernel
theorem kx_111_17 : x_code k_P 111 17 = some (.iload_n 1, 1) := by decide +kernel
theorem kx_111_18 : x_code k_P 111 18 = some (.iastore, 1) := by decide +kernel
theorem kx_111_19 : x_code k_P 111 19 = some (.aload_n 0, 1) := by decide +kernel
theorem kx_111_20 : x_code k_P 111 20 = some (.getfield 28, 3) := by decide +kernel
theorem kp_111_28 : x_pool k_P 111 28 = (1, 9, 5) := by decide +kernel
theorem kf_9_5 : (x_cls k_P 9)[5]? = some 12 := by decide +kernel
theorem kx_111_23 : x_code k_P 111 23 = some (.aload_n 0, 1) := by decide +kernel
theorem kx_111_24 : x_code k_P 111 24 = some (.getfield 9, 3) := by decide +kernel
theorem kx_111_27 : x_code k_P 111 27 = some (.iload_n 2, 1) := by decide +kernel
theorem kx_111_28 : x_code k_P 111 28 = some (.iastore, 1) := by decide +kernel
theorem kx_111_29 : x_code k_P 111 29 = some (.aload_n 0, 1) := by decide +kernel
theorem kx_111_30 : x_code k_P 111 30 = some (.getfield 31, 3) := by decide +kernel
theorem kp_111_31 : x_pool k_P 111 31 = (1, 9, 6) := by decide +kernel
theorem kf_9_6 : (x_cls k_P 9)[6]? = some 12 := by decide +kernel
theorem kx_111_33 : x_code k_P 111 33 = some (.aload_n 0, 1) := by decide +kernel
theorem kx_111_34 : x_code k_P 111 34 = some (.getfield 9, 3) := by decide +kernel
theorem kx_111_37 : x_code k_P 111 37 = some (.iload_n 3, 1) := by decide +kernel
theorem kx_111_38 : x_code k_P 111 38 = some (.iastore, 1) := by decide +kernel
theorem kx_111_39 : x_code k_P 111 39 = some (.aload_n 0, 1) := by decide +kernel
theorem kx_111_40 : x_code k_P 111 40 = some (.dup, 1) := by decide +kernel
theorem kx_111_41 : x_code k_P 111 41 = some (.getfield 9, 3) := by decide +kernel
theorem kx_111_44 : x_code k_P 111 44 = some (.iconst 1, 1) := by decide +kernel
theorem kx_111_45 : x_code k_P 111 45 = some (.iadd, 1) := by decide +kernel
theorem kx_111_46 : x_code k_P 111 46 = some (.putfield 9, 3) := by decide +kernel
def fS_111_m : List (Nat × Nat) := [(10, 99999), (11, 99999), (25, 0), (26, 99999), (27, 99999), (28, 99999), (8, 0), (9, 99999)]
theorem m_111 {xs : Nat → Int} {Ln d : Nat} {T : List cK} {M : cM} (hT : TT T) (hI : Rng M) {t : Nat} (ht : t = 8 ∨ t = 25) {name door floor : Int} : cC k_P xs Ln (d + 0) 111 [rf t, (0, name), (0, door), (0, floor)] (T, M) (qV T M fS_111_m (fun M1 => True)) := by
  show cP k_P xs Ln (d + 0) 111 0 [(0, rf t), (1, (0, name)), (2, (0, door)), (3, (0, floor))] [] (T, M) _
  have hFm : Fr fS_111_m M M := Fr.refl
  refine s_aload_n kx_111_0 rfl ?_
  refine r_getI (k := t) (f := 0) kx_111_1 kp_111_9 (tkt_0 hT ht) kf_9_0 (fun _ => rfl) (rgt_0_0 hI ht) (fun v1 v1e v1a v1b => ?_)
  refine s_bipush (v := 8) kx_111_4 (by decide) ?_
  refine s_icmp_ge (t := 49) kx_111_6 (by decide) (fun hc2 => ?_) (fun hc2 => ?_)
  · exact s_vret kx_111_49 kq_111 ⟨_, rfl, rfl, hI, hFm, trivial⟩
  · refine s_aload_n kx_111_9 rfl ?_
    refine r_getR (k := t) (f := 4) (k2 := (t + 1)) kx_111_10 kp_111_24 (tkt_0 hT ht) kf_9_4 (by decide) (rqt_4 hI ht) ?_
    refine s_aload_n kx_111_13 rfl ?_
    refine r_getK (k := t) (f := 0) kx_111_14 kp_111_9 (tkt_0 hT ht) kf_9_0 (fun _ => rfl) v1e ?_
    refine s_iload_n kx_111_17 rfl ?_
    refine r_ast (k := (t + 1)) kx_111_18 (tkt_1 hT ht) ⟨by omega, by omega⟩ hI (rut_1 ht) (fun M3 hI3 u3 => ?_)
    have hFm3 := hFm.up u3 (by rcases ht with rfl | rfl <;> rfl)
    refine s_aload_n kx_111_19 rfl ?_
    refine r_getR (k := t) (f := 5) (k2 := (t + 2)) kx_111_20 kp_111_28 (tkt_0 hT ht) kf_9_5 (by decide) (rqt_5 hI3 ht) ?_
    refine s_aload_n kx_111_23 rfl ?_
    refine r_getK (k := t) (f := 0) kx_111_24 kp_111_9 (tkt_0 hT ht) kf_9_0 (fun _ => rfl) ((u3.2 t 0 (by omega)).trans v1e) ?_
    refine s_iload_n kx_111_27 rfl ?_
    refine r_ast (k := (t + 2)) kx_111_28 (tkt_2 hT ht) ⟨by omega, by omega⟩ hI3 (rut_2 ht) (fun M4 hI4 u4 => ?_)
    have hFm4 := hFm3.up u4 (by rcases ht with rfl | rfl <;> rfl)
    refine s_aload_n kx_111_29 rfl ?_
    refine r_getR (k := t) (f := 6) (k2 := (t + 3)) kx_111_30 kp_111_31 (tkt_0 hT ht) kf_9_6 (by decide) (rqt_6 hI4 ht) ?_
    refine s_aload_n kx_111_33 rfl ?_
    refine r_getK (k := t) (f := 0) kx_111_34 kp_111_9 (tkt_0 hT ht) kf_9_0 (fun _ => rfl) ((u4.2 t 0 (by omega)).trans ((u3.2 t 0 (by omega)).trans v1e)) ?_
    refine s_iload_n kx_111_37 rfl ?_
    refine r_ast (k := (t + 3)) kx_111_38 (tkt_3 hT ht) ⟨by omega, by omega⟩ hI4 (rut_3 ht) (fun M5 hI5 u5 => ?_)
    have hFm5 := hFm4.up u5 (by rcases ht with rfl | rfl <;> rfl)
    refine s_aload_n kx_111_39 rfl ?_
    refine s_dup kx_111_40 rfl ?_
    refine r_getK (k := t) (f := 0) kx_111_41 kp_111_9 (tkt_0 hT ht) kf_9_0 (fun _ => rfl) ((u5.2 t 0 (by omega)).trans ((u4.2 t 0 (by omega)).trans ((u3.2 t 0 (by omega)).trans v1e))) ?_
    refine s_iconst (v := 1) kx_111_44 (by decide) ?_
    refine r_add kx_111_45 ⟨by omega, by omega⟩ ?_
    refine r_put (k := t) (f := 0) kx_111_46 kp_111_9 (tkt_0 hT ht) kf_9_0 rfl (by decide) (by decide) hI5 (rut_0_0 ht (by omega) (by omega)) (fun M6 hI6 u6 => ?_)
    have hFm6 := hFm5.up u6 (by rcases ht with rfl | rfl <;> rfl)
    exact s_vret kx_111_49 kq_111 ⟨_, rfl, rfl, hI6, hFm6, trivial⟩
theorem kx_112_0 : x_code k_P 112 0 = some (.aload_n 0, 1) := by decide +kernel
theorem kx_112_1 : x_code k_P 112 1 = some (.iload_n 1, 1) := by decide +kernel
theorem kx_112_2 : x_code k_P 112 2 = some (.invokevirtual 78, 3) := by decide +kernel
theorem kp_112_78 : x_pool k_P 112 78 = (2, 106, 1) := by decide +kernel
theorem ki_106 : x_mci k_P 106 = 9 := by decide +kernel
theorem kcl_106 : x_maxL k_P 106 ≤ 60 ∧ 2 ≤ x_maxL k_P 106 := by decide +kernel
theorem kx_112_5 : x_code k_P 112 5 = some (.ifCond .eq 35, 3) := by decide +kernel
theorem kx_112_40 : x_code k_P 112 40 = some (.return_, 1) := by decide +kernel
theorem kq_112 : x_retk k_P 112 = 0 := by decide +kernel
theorem kx_112_8 : x_code k_P 112 8 = some (.aload_n 0, 1) := by decide +kernel
theorem kx_112_9 : x_code k_P 112 9 = some (.iload_n 2, 1) := by decide +kernel
theorem kx_112_10 : x_code k_P 112 10 = some (.invokevirtual 78, 3) := by decide +kernel
theorem kx_112_13 : x_code k_P 112 13 = some (.ifCond .eq 27, 3) := by decide +kernel
theorem kx_112_16 : x_code k_P 112 16 = some (.aload_n 0, 1) := by decide +kernel
theorem kx_112_17 : x_code k_P 112 17 = some (.getfield 34, 3) := by decide +kernel
theorem kp_112_34 : x_pool k_P 112 34 = (1, 9, 7) := by decide +kernel
theorem kx_112_20 : x_code k_P 112 20 = some (.iload_n 1, 1) := by decide +kernel
theorem kx_112_21 : x_code k_P 112 21 = some (.bipush 8, 2) := by decide +kernel
theorem kx_112_23 : x_code k_P 112 23 = some (.imul, 1) := by decide +kernel
theorem kx_112_24 : x_code k_P 112 24 = some (.iload_n 2, 1) := by decide +kernel
theorem kx_112_25 : x_code k_P 112 25 = some (.iadd, 1) := by decide +kernel
theorem kx_112_26 : x_code k_P 112 26 = some (.iload_n 3, 1) := by decide +kernel
theorem kx_112_27 : x_code k_P 112 27 = some (.iastore, 1) := by decide +kernel
theorem kx_112_28 : x_code k_P 112 28 = some (.aload_n 0, 1) := by decide +kernel
theorem kx_112_29 : x_code k_P 112 29 = some (.getfield 34, 3) := by decide +kernel
theorem kx_112_32 : x_code k_P 112 32 = some (.iload_n 2, 1) := by decide +kernel
theorem kx_112_33 : x_code k_P 112 33 = some (.bipush 8, 2) := by decide +kernel
theorem kx_112_35 : x_code k_P 112 35 = some (.imul, 1) := by decide +kernel
theorem kx_112_36 : x_code k_P 112 36 = some (.iload_n 1, 1) := by decide +kernel
theorem kx_112_37 : x_code k_P 112 37 = some (.iadd, 1) := by decide +kernel
theorem kx_112_38 : x_code k_P 112 38 = some (.iload_n 3, 1) := by decide +kernel
theorem kx_112_39 : x_code k_P 112 39 = some (.iastore, 1) := by decide +kernel
def fS_112_m : List (Nat × Nat) := [(12, 99999), (29, 99999)]
theorem m_112 {xs : Nat → Int} {Ln d : Nat} {T : List cK} {M : cM} (hT : TT T) (hI : Rng M) {t : Nat} (ht : t = 8 ∨ t = 25) {from_ to mins : Int} : cC k_P xs Ln (d + 1) 112 [rf t, (0, from_), (0, to), (0, mins)] (T, M) (qV T M fS_112_m (fun M1 => True)) := by
  show cP k_P xs Ln (d + 1) 112 0 [(0, rf t), (1, (0, from_)), (2, (0, to)), (3, (0, mins))] [] (T, M) _
  have hFm : Fr fS_112_m M M := Fr.refl
  refine s_aload_n kx_112_0 rfl ?_
  refine s_iload_n kx_112_1 rfl ?_
  refine s_callV2 (k := t) (s1 := 2) (s2 := 0) (as := [(0, from_)]) (rest := []) kx_112_2 kp_112_78 (Or.inl rfl) rfl (tkt_0 hT ht) ki_106 kcl_106 rfl rfl (by decide) (m_106 (d := d) (room := from_) hT hI ht) (kF (fun v1 v1p => ?_))
  refine s_if_eq (t := 40) kx_112_5 (by decide) (fun hc2 => ?_) (fun hc2 => ?_)
  · replace v1p := v1p.resolve_left (by omega)
    exact s_vret kx_112_40 kq_112 ⟨_, rfl, rfl, hI, hFm, trivial⟩
  · replace v1p := v1p.resolve_right (by omega)
    refine s_aload_n kx_112_8 rfl ?_
    refine s_iload_n kx_112_9 rfl ?_
    refine s_callV2 (k := t) (s1 := 2) (s2 := 0) (as := [(0, to)]) (rest := []) kx_112_10 kp_112_78 (Or.inl rfl) rfl (tkt_0 hT ht) ki_106 kcl_106 rfl rfl (by decide) (m_106 (d := d) (room := to) hT hI ht) (kF (fun v3 v3p => ?_))
    refine s_if_eq (t := 40) kx_112_13 (by decide) (fun hc4 => ?_) (fun hc4 => ?_)
    · replace v3p := v3p.resolve_left (by omega)
      exact s_vret kx_112_40 kq_112 ⟨_, rfl, rfl, hI, hFm, trivial⟩
    · replace v3p := v3p.resolve_right (by omega)
      refine s_aload_n kx_112_16 rfl ?_
      refine r_getR (k := t) (f := 7) (k2 := (t + 4)) kx_112_17 kp_112_34 (tkt_0 hT ht) kf_9_7 (by decide) (rqt_7 hI ht) ?_
      refine s_iload_n kx_112_20 rfl ?_
      refine s_bipush (v := 8) kx_112_21 (by decide) ?_
      refine r_mul kx_112_23 ⟨by omega, by omega⟩ ?_
      refine s_iload_n kx_112_24 rfl ?_
      refine r_add kx_112_25 ⟨by omega, by omega⟩ ?_
      refine s_iload_n kx_112_26 rfl ?_
      refine r_ast (k := (t + 4)) kx_112_27 (tkt_4 hT ht) ⟨by omega, by omega⟩ hI (rut_4 ht) (fun M5 hI5 u5 => ?_)
      have hFm5 := hFm.up u5 (by rcases ht with rfl | rfl <;> rfl)
      refine s_aload_n kx_112_28 rfl ?_
      refine r_getR (k := t) (f := 7) (k2 := (t + 4)) kx_112_29 kp_112_34 (tkt_0 hT ht) kf_9_7 (by decide) (rqt_7 hI5 ht) ?_
      refine s_iload_n kx_112_32 rfl ?_
      refine s_bipush (v := 8) kx_112_33 (by decide) ?_
      refine r_mul kx_112_35 ⟨by omega, by omega⟩ ?_
      refine s_iload_n kx_112_36 rfl ?_
      refine r_add kx_112_37 ⟨by omega, by omega⟩ ?_
      refine s_iload_n kx_112_38 rfl ?_
      refine r_ast (k := (t + 4)) kx_112_39 (tkt_4 hT ht) ⟨by omega, by omega⟩ hI5 (rut_4 ht) (fun M6 hI6 u6 => ?_)
      have hFm6 := hFm5.up u6 (by rcases ht with rfl | rfl <;> rfl)
      exact s_vret kx_112_40 kq_112 ⟨_, rfl, rfl, hI6, hFm6, trivial⟩
theorem kx_113_0 : x_code k_P 113 0 = some (.aload_n 0, 1) := by decide +kernel
theorem kx_113_1 : x_code k_P 113 1 = some (.getfield 15, 3) := by decide +kernel
theorem kp_113_15 : x_pool k_P 113 15 = (1, 9, 1) := by decide +kernel
theorem kx_113_4 : x_code k_P 113 4 = some (.bipush 8, 2) := by decide +kernel
theorem kx_113_6 : x_code k_P 113 6 = some (.if_icmp .ge 75, 3) := by decide +kernel
theorem kx_113_81 : x_code k_P 113 81 = some (.return_, 1) := by decide +kernel
theorem kq_113 : x_retk k_P 113 = 0 := by decide +kernel
theorem kx_113_9 : x_code k_P 113 9 = some (.aload_n 0, 1) := by decide +kernel
theorem kx_113_10 : x_code k_P 113 10 = some (.getfield 37, 3) := by decide +kernel
theorem kp_113_37 : x_pool k_P 113 37 = (1, 9, 8) := by decide +kernel
theorem kx_113_13 : x_code k_P 113 13 = some (.aload_n 0, 1) := by decide +kernel
theorem kx_113_14 : x_code k_P 113 14 = some (.getfield 15, 3) := by decide +kernel
theorem kx_113_17 : x_code k_P 113 17 = some (.iload_n 1, 1) := by decide +kernel
theorem kx_113_18 : x_code k_P 113 18 = some (.iastore, 1) := by decide +kernel
theorem kx_113_19 : x_code k_P 113 19 = some (.aload_n 0, 1) := by decide +kernel
theorem kx_113_20 : x_code k_P 113 20 = some (.getfield 40, 3) := by decide +kernel
theorem kp_113_40 : x_pool k_P 113 40 = (1, 9, 9) := by decide +kernel
theorem kf_9_9 : (x_cls k_P 9)[9]? = some 12 := by decide +kernel
theorem kx_113_23 : x_code k_P 113 23 = some (.aload_n 0, 1) := by decide +kernel
theorem kx_113_24 : x_code k_P 113 24 = some (.getfield 15, 3) := by decide +kernel
theorem kx_113_27 : x_code k_P 113 27 = some (.iload_n 2, 1) := by decide +kernel
theorem kx_113_28 : x_code k_P 113 28 = some (.iastore, 1) := by decide +kernel
theorem kx_113_29 : x_code k_P 113 29 = some (.aload_n 0, 1) := by decide +kernel
theorem kx_113_30 : x_code k_P 113 30 = some (.getfield 43, 3) := by decide +kernel
theorem kp_113_43 : x_pool k_P 113 43 = (1, 9, 10) := by decide +kernel
theorem kf_9_10 : (x_cls k_P 9)[10]? = some 12 := by decide +kernel
theorem kx_113_33 : x_code k_P 113 33 = some (.aload_n 0, 1) := by decide +kernel
theorem kx_113_34 : x_code k_P 113 34 = some (.getfield 15, 3) := by decide +kernel
theorem kx_113_37 : x_code k_P 113 37 = some (.iload_n 3, 1) := by decide +kernel
theorem kx_113_38 : x_code k_P 113 38 = some (.iastore, 1) := by decide +kernel
theorem kx_113_39 : x_code k_P 113 39 = some (.aload_n 0, 1) := by decide +kernel
theorem kx_113_40 : x_code k_P 113 40 = some (.getfield 46, 3) := by decide +kernel
theorem kp_113_46 : x_pool k_P 113 46 = (1, 9, 11) := by decide +kernel
theorem kf_9_11 : (x_cls k_P 9)[11]? = some 12 := by decide +kernel
theorem kx_113_43 : x_code k_P 113 43 = some (.aload_n 0, 1) := by decide +kernel
theorem kx_113_44 : x_code k_P 113 44 = some (.getfield 15, 3) := by decide +kernel
theorem kx_113_47 : x_code k_P 113 47 = some (.iload 4, 2) := by decide +kernel
theorem kx_113_49 : x_code k_P 113 49 = some (.iastore, 1) := by decide +kernel
theorem kx_113_50 : x_code k_P 113 50 = some (.aload_n 0, 1) := by decide +kernel
theorem kx_113_51 : x_code k_P 113 51 = some (.getfield 52, 3) := by decide +kernel
theorem kp_113_52 : x_pool k_P 113 52 = (1, 9, 13) := by decide +kernel
theorem kf_9_13 : (x_cls k_P 9)[13]? = some 12 := by decide +kernel
theorem kx_113_54 : x_code k_P 113 54 = some (.aload_n 0, 1) := by decide +kernel
theorem kx_113_55 : x_code k_P 113 55 = some (.getfield 15, 3) := by decide +kernel
theorem kx_113_58 : x_code k_P 113 58 = some (.iload 5, 2) := by decide +kernel
theorem kx_113_60 : x_code k_P 113 60 = some (.iastore, 1) := by decide +kernel
theorem kx_113_61 : x_code k_P 113 61 = some (.aload_n 0, 1) := by decide +kernel
theorem kx_113_62 : x_code k_P 113 62 = some (.getfield 49, 3) := by decide +kernel
theorem kp_113_49 : x_pool k_P 113 49 = (1, 9, 12) := by decide +kernel
theorem kf_9_12 : (x_cls k_P 9)[12]? = some 12 := by decide +kernel
theorem kx_113_65 : x_code k_P 113 65 = some (.aload_n 0, 1) := by decide +kernel
theorem kx_113_66 : x_code k_P 113 66 = some (.getfield 15, 3) := by decide +kernel
theorem kx_113_69 : x_code k_P 113 69 = some (.iconst (-1), 1) := by decide +kernel
theorem kx_113_70 : x_code k_P 113 70 = some (.iastore, 1) := by decide +kernel
theorem kx_113_71 : x_code k_P 113 71 = some (.aload_n 0, 1) := by decide +kernel
theorem kx_113_72 : x_code k_P 113 72 = some (.dup, 1) := by decide +kernel
theorem kx_113_73 : x_code k_P 113 73 = some (.getfield 15, 3) := by decide +kernel
theorem kx_113_76 : x_code k_P 113 76 = some (.iconst 1, 1) := by decide +kernel
theorem kx_113_77 : x_code k_P 113 77 = some (.iadd, 1) := by decide +kernel
theorem kx_113_78 : x_code k_P 113 78 = some (.putfield 15, 3) := by decide +kernel
def fS_113_m : List (Nat × Nat) := [(13, 99999), (14, 99999), (15, 99999), (16, 99999), (17, 99999), (18, 99999), (25, 1), (30, 99999), (31, 99999), (32, 99999), (33, 99999), (34, 99999), (35, 99999), (8, 1)]
theorem m_113 {xs : Nat → Int} {Ln d : Nat} {T : List cK} {M : cM} (hT : TT T) (hI : Rng M) {t : Nat} (ht : t = 8 ∨ t = 25) {name strong weight width home : Int} (p0 : 0 ≤ home ∧ home ≤ 7) : cC k_P xs Ln (d + 0) 113 [rf t, (0, name), (0, strong), (0, weight), (0, width), (0, home)] (T, M) (qV T M fS_113_m (fun M1 => True)) := by
  show cP k_P xs Ln (d + 0) 113 0 [(0, rf t), (1, (0, name)), (2, (0, strong)), (3, (0, weight)), (4, (0, width)), (5, (0, home))] [] (T, M) _
  have hFm : Fr fS_113_m M M := Fr.refl
  refine s_aload_n kx_113_0 rfl ?_
  refine r_getI (k := t) (f := 1) kx_113_1 kp_113_15 (tkt_0 hT ht) kf_9_1 (fun _ => rfl) (rgt_0_1 hI ht) (fun v1 v1e v1a v1b => ?_)
  refine s_bipush (v := 8) kx_113_4 (by decide) ?_
  refine s_icmp_ge (t := 81) kx_113_6 (by decide) (fun hc2 => ?_) (fun hc2 => ?_)
  · exact s_vret kx_113_81 kq_113 ⟨_, rfl, rfl, hI, hFm, trivial⟩
  · refine s_aload_n kx_113_9 rfl ?_
    refine r_getR (k := t) (f := 8) (k2 := (t + 5)) kx_113_10 kp_113_37 (tkt_0 hT ht) kf_9_8 (by decide) (rqt_8 hI ht) ?_
    refine s_aload_n kx_113_13 rfl ?_
    refine r_getK (k := t) (f := 1) kx_113_14 kp_113_15 (tkt_0 hT ht) kf_9_1 (fun _ => rfl) v1e ?_
    refine s_iload_n kx_113_17 rfl ?_
    refine r_ast (k := (t + 5)) kx_113_18 (tkt_5 hT ht) ⟨by omega, by omega⟩ hI (rut_5 ht) (fun M3 hI3 u3 => ?_)
    have hFm3 := hFm.up u3 (by rcases ht with rfl | rfl <;> rfl)
    refine s_aload_n kx_113_19 rfl ?_
    refine r_getR (k := t) (f := 9) (k2 := (t + 6)) kx_113_20 kp_113_40 (tkt_0 hT ht) kf_9_9 (by decide) (rqt_9 hI3 ht) ?_
    refine s_aload_n kx_113_23 rfl ?_
    refine r_getK (k := t) (f := 1) kx_113_24 kp_113_15 (tkt_0 hT ht) kf_9_1 (fun _ => rfl) ((u3.2 t 1 (by omega)).trans v1e) ?_
    refine s_iload_n kx_113_27 rfl ?_
    refine r_ast (k := (t + 6)) kx_113_28 (tkt_6 hT ht) ⟨by omega, by omega⟩ hI3 (rut_6 ht) (fun M4 hI4 u4 => ?_)
    have hFm4 := hFm3.up u4 (by rcases ht with rfl | rfl <;> rfl)
    refine s_aload_n kx_113_29 rfl ?_
    refine r_getR (k := t) (f := 10) (k2 := (t + 7)) kx_113_30 kp_113_43 (tkt_0 hT ht) kf_9_10 (by decide) (rqt_10 hI4 ht) ?_
    refine s_aload_n kx_113_33 rfl ?_
    refine r_getK (k := t) (f := 1) kx_113_34 kp_113_15 (tkt_0 hT ht) kf_9_1 (fun _ => rfl) ((u4.2 t 1 (by omega)).trans ((u3.2 t 1 (by omega)).trans v1e)) ?_
    refine s_iload_n kx_113_37 rfl ?_
    refine r_ast (k := (t + 7)) kx_113_38 (tkt_7 hT ht) ⟨by omega, by omega⟩ hI4 (rut_7 ht) (fun M5 hI5 u5 => ?_)
    have hFm5 := hFm4.up u5 (by rcases ht with rfl | rfl <;> rfl)
    refine s_aload_n kx_113_39 rfl ?_
    refine r_getR (k := t) (f := 11) (k2 := (t + 8)) kx_113_40 kp_113_46 (tkt_0 hT ht) kf_9_11 (by decide) (rqt_11 hI5 ht) ?_
    refine s_aload_n kx_113_43 rfl ?_
    refine r_getK (k := t) (f := 1) kx_113_44 kp_113_15 (tkt_0 hT ht) kf_9_1 (fun _ => rfl) ((u5.2 t 1 (by omega)).trans ((u4.2 t 1 (by omega)).trans ((u3.2 t 1 (by omega)).trans v1e))) ?_
    refine s_iload kx_113_47 rfl ?_
    refine r_ast (k := (t + 8)) kx_113_49 (tkt_8 hT ht) ⟨by omega, by omega⟩ hI5 (rut_8 ht) (fun M6 hI6 u6 => ?_)
    have hFm6 := hFm5.up u6 (by rcases ht with rfl | rfl <;> rfl)
    refine s_aload_n kx_113_50 rfl ?_
    refine r_getR (k := t) (f := 13) (k2 := (t + 10)) kx_113_51 kp_113_52 (tkt_0 hT ht) kf_9_13 (by decide) (rqt_13 hI6 ht) ?_
    refine s_aload_n kx_113_54 rfl ?_
    refine r_getK (k := t) (f := 1) kx_113_55 kp_113_15 (tkt_0 hT ht) kf_9_1 (fun _ => rfl) ((u6.2 t 1 (by omega)).trans ((u5.2 t 1 (by omega)).trans ((u4.2 t 1 (by omega)).trans ((u3.2 t 1 (by omega)).trans v1e)))) ?_
    refine s_iload kx_113_58 rfl ?_
    refine r_ast (k := (t + 10)) kx_113_60 (tkt_10 hT ht) ⟨by omega, by omega⟩ hI6 (rut_10 ht (by omega) (by omega)) (fun M7 hI7 u7 => ?_)
    have hFm7 := hFm6.up u7 (by rcases ht with rfl | rfl <;> rfl)
    refine s_aload_n kx_113_61 rfl ?_
    refine r_getR (k := t) (f := 12) (k2 := (t + 9)) kx_113_62 kp_113_49 (tkt_0 hT ht) kf_9_12 (by decide) (rqt_12 hI7 ht) ?_
    refine s_aload_n kx_113_65 rfl ?_
    refine r_getK (k := t) (f := 1) kx_113_66 kp_113_15 (tkt_0 hT ht) kf_9_1 (fun _ => rfl) ((u7.2 t 1 (by omega)).trans ((u6.2 t 1 (by omega)).trans ((u5.2 t 1 (by omega)).trans ((u4.2 t 1 (by omega)).trans ((u3.2 t 1 (by omega)).trans v1e))))) ?_
    refine s_iconst (v := (-1)) kx_113_69 (by decide) ?_
    refine r_ast (k := (t + 9)) kx_113_70 (tkt_9 hT ht) ⟨by omega, by omega⟩ hI7 (rut_9 ht) (fun M8 hI8 u8 => ?_)
    have hFm8 := hFm7.up u8 (by rcases ht with rfl | rfl <;> rfl)
    refine s_aload_n kx_113_71 rfl ?_
    refine s_dup kx_113_72 rfl ?_
    refine r_getK (k := t) (f := 1) kx_113_73 kp_113_15 (tkt_0 hT ht) kf_9_1 (fun _ => rfl) ((u8.2 t 1 (by omega)).trans ((u7.2 t 1 (by omega)).trans ((u6.2 t 1 (by omega)).trans ((u5.2 t 1 (by omega)).trans ((u4.2 t 1 (by omega)).trans ((u3.2 t 1 (by omega)).trans v1e)))))) ?_
    refine s_iconst (v := 1) kx_113_76 (by decide) ?_
    refine r_add kx_113_77 ⟨by omega, by omega⟩ ?_
    refine r_put (k := t) (f := 1) kx_113_78 kp_113_15 (tkt_0 hT ht) kf_9_1 rfl (by decide) (by decide) hI8 (rut_0_1 ht (by omega) (by omega)) (fun M9 hI9 u9 => ?_)
    have hFm9 := hFm8.up u9 (by rcases ht with rfl | rfl <;> rfl)
    exact s_vret kx_113_81 kq_113 ⟨_, rfl, rfl, hI9, hFm9, trivial⟩
theorem kx_114_0 : x_code k_P 114 0 = some (.aload_n 0, 1) := by decide +kernel
theorem kx_114_1 : x_code k_P 114 1 = some (.iload_n 1, 1) := by decide +kernel
theorem kx_114_2 : x_code k_P 114 2 = some (.invokevirtual 82, 3) := by decide +kernel
theorem kp_114_82 : x_pool k_P 114 82 = (2, 107, 1) := by decide +kernel
theorem ki_107 : x_mci k_P 107 = 9 := by decide +kernel
theorem kcl_107 : x_maxL k_P 107 ≤ 60 ∧ 2 ≤ x_maxL k_P 107 := by decide +kernel
theorem kx_114_5 : x_code k_P 114 5 = some (.ifCond .eq 25, 3) := by decide +kernel
theorem kx_114_30 : x_code k_P 114 30 = some (.return_, 1) := by decide +kernel
theorem kq_114 : x_retk k_P 114 = 0 := by decide +kernel
theorem kx_114_8 : x_code k_P 114 8 = some (.aload_n 0, 1) := by decide +kernel
theorem kx_114_9 : x_code k_P 114 9 = some (.iload_n 2, 1) := by decide +kernel
theorem kx_114_10 : x_code k_P 114 10 = some (.invokevirtual 82, 3) := by decide +kernel
theorem kx_114_13 : x_code k_P 114 13 = some (.ifCond .eq 17, 3) := by decide +kernel
theorem kx_114_16 : x_code k_P 114 16 = some (.aload_n 0, 1) := by decide +kernel
theorem kx_114_17 : x_code k_P 114 17 = some (.getfield 49, 3) := by decide +kernel
theorem kp_114_49 : x_pool k_P 114 49 = (1, 9, 12) := by decide +kernel
theorem kx_114_20 : x_code k_P 114 20 = some (.iload_n 1, 1) := by decide +kernel
theorem kx_114_21 : x_code k_P 114 21 = some (.iload_n 2, 1) := by decide +kernel
theorem kx_114_22 : x_code k_P 114 22 = some (.iastore, 1) := by decide +kernel
theorem kx_114_23 : x_code k_P 114 23 = some (.aload_n 0, 1) := by decide +kernel
theorem kx_114_24 : x_code k_P 114 24 = some (.getfield 49, 3) := by decide +kernel
theorem kx_114_27 : x_code k_P 114 27 = some (.iload_n 2, 1) := by decide +kernel
theorem kx_114_28 : x_code k_P 114 28 = some (.iload_n 1, 1) := by decide +kernel
theorem kx_114_29 : x_code k_P 114 29 = some (.iastore, 1) := by decide +kernel
def fS_114_m : List (Nat × Nat) := [(17, 99999), (34, 99999)]
theorem m_114 {xs : Nat → Int} {Ln d : Nat} {T : List cK} {M : cM} (hT : TT T) (hI : Rng M) {t : Nat} (ht : t = 8 ∨ t = 25) {one other : Int} : cC k_P xs Ln (d + 1) 114 [rf t, (0, one), (0, other)] (T, M) (qV T M fS_114_m (fun M1 => True)) := by
  show cP k_P xs Ln (d + 1) 114 0 [(0, rf t), (1, (0, one)), (2, (0, other))] [] (T, M) _
  have hFm : Fr fS_114_m M M := Fr.refl
  refine s_aload_n kx_114_0 rfl ?_
  refine s_iload_n kx_114_1 rfl ?_
  refine s_callV2 (k := t) (s1 := 2) (s2 := 0) (as := [(0, one)]) (rest := []) kx_114_2 kp_114_82 (Or.inl rfl) rfl (tkt_0 hT ht) ki_107 kcl_107 rfl rfl (by decide) (m_107 (d := d) (person := one) hT hI ht) (kF (fun v1 v1p => ?_))
  refine s_if_eq (t := 30) kx_114_5 (by decide) (fun hc2 => ?_) (fun hc2 => ?_)
  · replace v1p := v1p.resolve_left (by omega)
    exact s_vret kx_114_30 kq_114 ⟨_, rfl, rfl, hI, hFm, trivial⟩
  · replace v1p := v1p.resolve_right (by omega)
    refine s_aload_n kx_114_8 rfl ?_
    refine s_iload_n kx_114_9 rfl ?_
    refine s_callV2 (k := t) (s1 := 2) (s2 := 0) (as := [(0, other)]) (rest := []) kx_114_10 kp_114_82 (Or.inl rfl) rfl (tkt_0 hT ht) ki_107 kcl_107 rfl rfl (by decide) (m_107 (d := d) (person := other) hT hI ht) (kF (fun v3 v3p => ?_))
    refine s_if_eq (t := 30) kx_114_13 (by decide) (fun hc4 => ?_) (fun hc4 => ?_)
    · replace v3p := v3p.resolve_left (by omega)
      exact s_vret kx_114_30 kq_114 ⟨_, rfl, rfl, hI, hFm, trivial⟩
    · replace v3p := v3p.resolve_right (by omega)
      refine s_aload_n kx_114_16 rfl ?_
      refine r_getR (k := t) (f := 12) (k2 := (t + 9)) kx_114_17 kp_114_49 (tkt_0 hT ht) kf_9_12 (by decide) (rqt_12 hI ht) ?_
      refine s_iload_n kx_114_20 rfl ?_
      refine s_iload_n kx_114_21 rfl ?_
      refine r_ast (k := (t + 9)) kx_114_22 (tkt_9 hT ht) ⟨by omega, by omega⟩ hI (rut_9 ht) (fun M5 hI5 u5 => ?_)
      have hFm5 := hFm.up u5 (by rcases ht with rfl | rfl <;> rfl)
      refine s_aload_n kx_114_23 rfl ?_
      refine r_getR (k := t) (f := 12) (k2 := (t + 9)) kx_114_24 kp_114_49 (tkt_0 hT ht) kf_9_12 (by decide) (rqt_12 hI5 ht) ?_
      refine s_iload_n kx_114_27 rfl ?_
      refine s_iload_n kx_114_28 rfl ?_
      refine r_ast (k := (t + 9)) kx_114_29 (tkt_9 hT ht) ⟨by omega, by omega⟩ hI5 (rut_9 ht) (fun M6 hI6 u6 => ?_)
      have hFm6 := hFm5.up u6 (by rcases ht with rfl | rfl <;> rfl)
      exact s_vret kx_114_30 kq_114 ⟨_, rfl, rfl, hI6, hFm6, trivial⟩
theorem kx_115_0 : x_code k_P 115 0 = some (.aload_n 0, 1) := by decide +kernel
theorem kx_115_1 : x_code k_P 115 1 = some (.iload_n 1, 1) := by decide +kernel
theorem kx_115_2 : x_code k_P 115 2 = some (.invokevirtual 78, 3) := by decide +kernel
theorem kp_115_78 : x_pool k_P 115 78 = (2, 106, 1) := by decide +kernel
theorem kx_115_5 : x_code k_P 115 5 = some (.ifCond .eq 13, 3) := by decide +kernel
theorem kx_115_18 : x_code k_P 115 18 = some (.iconst 0, 1) := by decide +kernel
theorem kx_115_19 : x_code k_P 115 19 = some (.ireturn, 1) := by decide +kernel
theorem kq_115 : x_retk k_P 115 = 2 := by decide +kernel
theorem kx_115_8 : x_code k_P 115 8 = some (.iload_n 2, 1) := by decide +kernel
theorem kx_115_9 : x_code k_P 115 9 = some (.aload_n 0, 1) := by decide +kernel
theorem kx_115_10 : x_code k_P 115 10 = some (.getfield 28, 3) := by decide +kernel
theorem kp_115_28 : x_pool k_P 115 28 = (1, 9, 5) := by decide +kernel
theorem kx_115_13 : x_code k_P 115 13 = some (.iload_n 1, 1) := by decide +kernel
theorem kx_115_14 : x_code k_P 115 14 = some (.iaload, 1) := by decide +kernel
theorem kx_115_15 : x_code k_P 115 15 = some (.if_icmp .le 5, 3) := by decide +kernel
theorem kx_115_20 : x_code k_P 115 20 = some (.iload_n 2, 1) := by decide +kernel
theorem kx_115_21 : x_code k_P 115 21 = some (.istore_n 3, 1) := by decide +kernel
theorem km_115_3 : 3 < x_maxL k_P 115 := by decide +kernel
theorem kx_115_22 : x_code k_P 115 22 = some (.iconst 0, 1) := by decide +kernel
theorem kx_115_23 : x_code k_P 115 23 = some (.istore 4, 2) := by decide +kernel
theorem km_115_4 : 4 < x_maxL k_P 115 := by decide +kernel
theorem kx_115_25 : x_code k_P 115 25 = some (.iload 4, 2) := by decide +kernel
theorem kx_115_27 : x_code k_P 115 27 = some (.aload_n 0, 1) := by decide +kernel
theorem kx_115_28 : x_code k_P 115 28 = some (.getfield 15, 3) := by decide +kernel
theorem kp_115_15 : x_pool k_P 115 15 = (1, 9, 1) := by decide +kernel
theorem kx_115_31 : x_code k_P 115 31 = some (.if_icmp .ge 34, 3) := by decide +kernel
theorem kx_115_65 : x_code k_P 115 65 = some (.iload_n 3, 1) := by decide +kernel
theorem kx_115_66 : x_code k_P 115 66 = some (.aload_n 0, 1) := by decide +kernel
theorem kx_115_67 : x_code k_P 115 67 = some (.getfield 31, 3) := by decide +kernel
theorem kp_115_31 : x_pool k_P 115 31 = (1, 9, 6) := by decide +kernel
theorem kx_115_70 : x_code k_P 115 70 = some (.iload_n 1, 1) := by decide +kernel
theorem kx_115_71 : x_code k_P 115 71 = some (.iaload, 1) := by decide +kernel
theorem kx_115_72 : x_code k_P 115 72 = some (.if_icmp .gt 7, 3) := by decide +kernel
theorem kx_115_79 : x_code k_P 115 79 = some (.iconst 0, 1) := by decide +kernel
theorem kx_115_80 : x_code k_P 115 80 = some (.ireturn, 1) := by decide +kernel
theorem kx_115_75 : x_code k_P 115 75 = some (.iconst 1, 1) := by decide +kernel
theorem kx_115_76 : x_code k_P 115 76 = some (.goto 4, 3) := by decide +kernel
theorem kx_115_34 : x_code k_P 115 34 = some (.iload_n 3, 1) := by decide +kernel
theorem kx_115_35 : x_code k_P 115 35 = some (.aload_n 0, 1) := by decide +kernel
theorem kx_115_36 : x_code k_P 115 36 = some (.getfield 52, 3) := by decide +kernel
theorem kp_115_52 : x_pool k_P 115 52 = (1, 9, 13) := by decide +kernel
theorem kx_115_39 : x_code k_P 115 39 = some (.iload 4, 2) := by decide +kernel
theorem kx_115_41 : x_code k_P 115 41 = some (.iaload, 1) := by decide +kernel
theorem kx_115_42 : x_code k_P 115 42 = some (.iload_n 1, 1) := by decide +kernel
theorem kx_115_43 : x_code k_P 115 43 = some (.if_icmp .ne 13, 3) := by decide +kernel
theorem kx_115_56 : x_code k_P 115 56 = some (.iconst 0, 1) := by decide +kernel
theorem kx_115_57 : x_code k_P 115 57 = some (.iadd, 1) := by decide +kernel
theorem kx_115_58 : x_code k_P 115 58 = some (.istore_n 3, 1) := by decide +kernel
theorem kx_115_59 : x_code k_P 115 59 = some (.iinc 4 1, 3) := by decide +kernel
theorem kx_115_62 : x_code k_P 115 62 = some (.goto (-37), 3) := by decide +kernel
theorem kx_115_46 : x_code k_P 115 46 = some (.aload_n 0, 1) := by decide +kernel
theorem kx_115_47 : x_code k_P 115 47 = some (.getfield 46, 3) := by decide +kernel
theorem kp_115_46 : x_pool k_P 115 46 = (1, 9, 11) := by decide +kernel
theorem kx_115_50 : x_code k_P 115 50 = some (.iload 4, 2) := by decide +kernel
theorem kx_115_52 : x_code k_P 115 52 = some (.iaload, 1) := by decide +kernel
theorem kx_115_53 : x_code k_P 115 53 = some (.goto 4, 3) := by decide +kernel
theorem m_115 {xs : Nat → Int} {Ln d : Nat} {T : List cK} {M : cM} (hT : TT T) (hI : Rng M) {t : Nat} (ht : t = 8 ∨ t = 25) {room width : Int} : cC k_P xs Ln (d + 1) 115 [rf t, (0, room), (0, width)] (T, M) (qF T M 0 (fun v => 0 ≤ v ∧ v ≤ 1)) := by
  show cP k_P xs Ln (d + 1) 115 0 [(0, rf t), (1, (0, room)), (2, (0, width))] [] (T, M) _
  refine s_aload_n kx_115_0 rfl ?_
  refine s_iload_n kx_115_1 rfl ?_
  refine s_callV2 (k := t) (s1 := 2) (s2 := 0) (as := [(0, room)]) (rest := []) kx_115_2 kp_115_78 (Or.inl rfl) rfl (tkt_0 hT ht) ki_106 kcl_106 rfl rfl (by decide) (m_106 (d := d) (room := room) hT hI ht) (kF (fun v1 v1p => ?_))
  refine s_if_eq (t := 18) kx_115_5 (by decide) (fun hc2 => ?_) (fun hc2 => ?_)
  · replace v1p := v1p.resolve_left (by omega)
    refine s_iconst (v := 0) kx_115_18 (by decide) ?_
    exact s_iret kx_115_19 (Or.inr ⟨kq_115, by omega⟩) ⟨_, rfl, rfl, (by omega)⟩
  · replace v1p := v1p.resolve_right (by omega)
    refine s_iload_n kx_115_8 rfl ?_
    refine s_aload_n kx_115_9 rfl ?_
    refine r_getR (k := t) (f := 5) (k2 := (t + 2)) kx_115_10 kp_115_28 (tkt_0 hT ht) kf_9_5 (by decide) (rqt_5 hI ht) ?_
    refine s_iload_n kx_115_13 rfl ?_
    refine r_aldU (k := (t + 2)) kx_115_14 (tkt_2 hT ht) ⟨by omega, by omega⟩ (fun v3 v3e => ?_)
    refine s_icmp_le (t := 20) kx_115_15 (by decide) (fun hc4 => ?_) (fun hc4 => ?_)
    · refine s_iload_n kx_115_20 rfl ?_
      refine s_istore_n kx_115_21 km_115_3 rfl ?_
      refine s_iconst (v := 0) kx_115_22 (by decide) ?_
      refine s_istore kx_115_23 km_115_4 rfl ?_
      have key7 : ∀ n8 : Nat, ∀ (x3_5 x4_6 : Int), (0 ≤ x4_6) → (2147483647 - x4_6).toNat < n8 → cP k_P xs Ln (d + 1) 115 25 [(0, rf t), (1, (0, room)), (3, (0, x3_5)), (4, (0, x4_6))] [] (T, M) (qF T M 0 (fun v => 0 ≤ v ∧ v ≤ 1)) := by
        intro n8
        induction n8 with
        | zero => intro x3_5 x4_6 i9 hm10; exact absurd hm10 (Nat.not_lt_zero _)
        | succ n8 ih11 =>
          intro x3_5 x4_6 i9 hm10
          refine s_iload kx_115_25 rfl ?_
          refine s_aload_n kx_115_27 rfl ?_
          refine r_getI (k := t) (f := 1) kx_115_28 kp_115_15 (tkt_0 hT ht) kf_9_1 (fun _ => rfl) (rgt_0_1 hI ht) (fun v12 v12e v12a v12b => ?_)
          refine s_icmp_ge (t := 65) kx_115_31 (by decide) (fun hc13 => ?_) (fun hc13 => ?_)
          · refine s_iload_n kx_115_65 rfl ?_
            refine s_aload_n kx_115_66 rfl ?_
            refine r_getR (k := t) (f := 6) (k2 := (t + 3)) kx_115_67 kp_115_31 (tkt_0 hT ht) kf_9_6 (by decide) (rqt_6 hI ht) ?_
            refine s_iload_n kx_115_70 rfl ?_
            refine r_aldU (k := (t + 3)) kx_115_71 (tkt_3 hT ht) ⟨by omega, by omega⟩ (fun v14 v14e => ?_)
            refine s_icmp_gt (t := 79) kx_115_72 (by decide) (fun hc15 => ?_) (fun hc15 => ?_)
            · refine s_iconst (v := 0) kx_115_79 (by decide) ?_
              exact s_iret kx_115_80 (Or.inr ⟨kq_115, by omega⟩) ⟨_, rfl, rfl, (by omega)⟩
            · refine s_iconst (v := 1) kx_115_75 (by decide) ?_
              refine s_goto (t := 80) kx_115_76 (by decide) ?_
              exact s_iret kx_115_80 (Or.inr ⟨kq_115, by omega⟩) ⟨_, rfl, rfl, (by omega)⟩
          · refine s_iload_n kx_115_34 rfl ?_
            refine s_aload_n kx_115_35 rfl ?_
            refine r_getR (k := t) (f := 13) (k2 := (t + 10)) kx_115_36 kp_115_52 (tkt_0 hT ht) kf_9_13 (by decide) (rqt_13 hI ht) ?_
            refine s_iload kx_115_39 rfl ?_
            refine r_ald (k := (t + 10)) kx_115_41 (tkt_10 hT ht) ⟨by omega, by omega⟩ (rgt_10 hI ht) (fun v16 v16e v16a v16b => ?_)
            refine s_iload_n kx_115_42 rfl ?_
            refine s_icmp_ne (t := 56) kx_115_43 (by decide) (fun hc17 => ?_) (fun hc17 => ?_)
            · refine s_iconst (v := 0) kx_115_56 (by decide) ?_
              refine r_iaddR kx_115_57 (fun v18 v18a v18b => ?_)
              refine s_istore_n kx_115_58 km_115_3 rfl ?_
              refine r_iinc kx_115_59 rfl km_115_4 (by decide) ⟨by omega, by omega⟩ rfl ?_
              refine s_goto (t := 25) kx_115_62 (by decide) ?_
              exact cP.wk (lS1 rfl (lS1 rfl (lS1 rfl (lS1 rfl lS0)))) (ih11 v18 (x4_6 + 1) (by omega) (by omega))
            · refine s_aload_n kx_115_46 rfl ?_
              refine r_getR (k := t) (f := 11) (k2 := (t + 8)) kx_115_47 kp_115_46 (tkt_0 hT ht) kf_9_11 (by decide) (rqt_11 hI ht) ?_
              refine s_iload kx_115_50 rfl ?_
              refine r_aldU (k := (t + 8)) kx_115_52 (tkt_8 hT ht) ⟨by omega, by omega⟩ (fun v19 v19e => ?_)
              refine s_goto (t := 57) kx_115_53 (by decide) ?_
              refine r_iaddR kx_115_57 (fun v20 v20a v20b => ?_)
              refine s_istore_n kx_115_58 km_115_3 rfl ?_
              refine r_iinc kx_115_59 rfl km_115_4 (by decide) ⟨by omega, by omega⟩ rfl ?_
              refine s_goto (t := 25) kx_115_62 (by decide) ?_
              exact cP.wk (lS1 rfl (lS1 rfl (lS1 rfl (lS1 rfl lS0)))) (ih11 v20 (x4_6 + 1) (by omega) (by omega))
      exact cP.wk (lS1 rfl (lS1 rfl (lS1 rfl (lS1 rfl lS0)))) (key7 _ width 0 (by omega) (Nat.lt_succ_self _))
    · refine s_iconst (v := 0) kx_115_18 (by decide) ?_
      exact s_iret kx_115_19 (Or.inr ⟨kq_115, by omega⟩) ⟨_, rfl, rfl, (by omega)⟩
theorem kx_116_0 : x_code k_P 116 0 = some (.aload_n 0, 1) := by decide +kernel
theorem kx_116_1 : x_code k_P 116 1 = some (.iload_n 1, 1) := by decide +kernel
theorem kx_116_2 : x_code k_P 116 2 = some (.invokevirtual 82, 3) := by decide +kernel
theorem kp_116_82 : x_pool k_P 116 82 = (2, 107, 1) := by decide +kernel
theorem kx_116_5 : x_code k_P 116 5 = some (.ifCond .ne 5, 3) := by decide +kernel
theorem kx_116_10 : x_code k_P 116 10 = some (.aload_n 0, 1) := by decide +kernel
theorem kx_116_11 : x_code k_P 116 11 = some (.getfield 46, 3) := by decide +kernel
theorem kp_116_46 : x_pool k_P 116 46 = (1, 9, 11) := by decide +kernel
theorem kx_116_14 : x_code k_P 116 14 = some (.iload_n 1, 1) := by decide +kernel
theorem kx_116_15 : x_code k_P 116 15 = some (.iaload, 1) := by decide +kernel
theorem kx_116_16 : x_code k_P 116 16 = some (.aload_n 0, 1) := by decide +kernel
theorem kx_116_17 : x_code k_P 116 17 = some (.aload_n 0, 1) := by decide +kernel
theorem kx_116_18 : x_code k_P 116 18 = some (.getfield 49, 3) := by decide +kernel
theorem kp_116_49 : x_pool k_P 116 49 = (1, 9, 12) := by decide +kernel
theorem kx_116_21 : x_code k_P 116 21 = some (.iload_n 1, 1) := by decide +kernel
theorem kx_116_22 : x_code k_P 116 22 = some (.iaload, 1) := by decide +kernel
theorem kx_116_23 : x_code k_P 116 23 = some (.invokevirtual 82, 3) := by decide +kernel
theorem kx_116_26 : x_code k_P 116 26 = some (.ifCond .eq 17, 3) := by decide +kernel
theorem kx_116_43 : x_code k_P 116 43 = some (.iconst 0, 1) := by decide +kernel
theorem kx_116_44 : x_code k_P 116 44 = some (.iadd, 1) := by decide +kernel
theorem kx_116_45 : x_code k_P 116 45 = some (.ireturn, 1) := by decide +kernel
theorem kq_116 : x_retk k_P 116 = 1 := by decide +kernel
theorem kx_116_29 : x_code k_P 116 29 = some (.aload_n 0, 1) := by decide +kernel
theorem kx_116_30 : x_code k_P 116 30 = some (.getfield 46, 3) := by decide +kernel
theorem kx_116_33 : x_code k_P 116 33 = some (.aload_n 0, 1) := by decide +kernel
theorem kx_116_34 : x_code k_P 116 34 = some (.getfield 49, 3) := by decide +kernel
theorem kx_116_37 : x_code k_P 116 37 = some (.iload_n 1, 1) := by decide +kernel
theorem kx_116_38 : x_code k_P 116 38 = some (.iaload, 1) := by decide +kernel
theorem kx_116_39 : x_code k_P 116 39 = some (.iaload, 1) := by decide +kernel
theorem kx_116_40 : x_code k_P 116 40 = some (.goto 4, 3) := by decide +kernel
theorem kx_116_8 : x_code k_P 116 8 = some (.iconst 0, 1) := by decide +kernel
theorem kx_116_9 : x_code k_P 116 9 = some (.ireturn, 1) := by decide +kernel
theorem m_116 {xs : Nat → Int} {Ln d : Nat} {T : List cK} {M : cM} (hT : TT T) (hI : Rng M) {t : Nat} (ht : t = 8 ∨ t = 25) {chair : Int} : cC k_P xs Ln (d + 1) 116 [rf t, (0, chair)] (T, M) (qF T M 0 (fun v => True)) := by
  show cP k_P xs Ln (d + 1) 116 0 [(0, rf t), (1, (0, chair))] [] (T, M) _
  refine s_aload_n kx_116_0 rfl ?_
  refine s_iload_n kx_116_1 rfl ?_
  refine s_callV2 (k := t) (s1 := 2) (s2 := 0) (as := [(0, chair)]) (rest := []) kx_116_2 kp_116_82 (Or.inl rfl) rfl (tkt_0 hT ht) ki_107 kcl_107 rfl rfl (by decide) (m_107 (d := d) (person := chair) hT hI ht) (kF (fun v1 v1p => ?_))
  refine s_if_ne (t := 10) kx_116_5 (by decide) (fun hc2 => ?_) (fun hc2 => ?_)
  · replace v1p := v1p.resolve_right (by omega)
    refine s_aload_n kx_116_10 rfl ?_
    refine r_getR (k := t) (f := 11) (k2 := (t + 8)) kx_116_11 kp_116_46 (tkt_0 hT ht) kf_9_11 (by decide) (rqt_11 hI ht) ?_
    refine s_iload_n kx_116_14 rfl ?_
    refine r_aldU (k := (t + 8)) kx_116_15 (tkt_8 hT ht) ⟨by omega, by omega⟩ (fun v3 v3e => ?_)
    refine s_aload_n kx_116_16 rfl ?_
    refine s_aload_n kx_116_17 rfl ?_
    refine r_getR (k := t) (f := 12) (k2 := (t + 9)) kx_116_18 kp_116_49 (tkt_0 hT ht) kf_9_12 (by decide) (rqt_12 hI ht) ?_
    refine s_iload_n kx_116_21 rfl ?_
    refine r_aldU (k := (t + 9)) kx_116_22 (tkt_9 hT ht) ⟨by omega, by omega⟩ (fun v4 v4e => ?_)
    refine s_callV2 (k := t) (s1 := 2) (s2 := 1) (as := [(0, v4)]) (rest := [(0, v3)]) kx_116_23 kp_116_82 (Or.inl rfl) rfl (tkt_0 hT ht) ki_107 kcl_107 rfl rfl (by decide) (m_107 (d := d) (person := v4) hT hI ht) (kF (fun v5 v5p => ?_))
    refine s_if_eq (t := 43) kx_116_26 (by decide) (fun hc6 => ?_) (fun hc6 => ?_)
    · replace v5p := v5p.resolve_left (by omega)
      refine s_iconst (v := 0) kx_116_43 (by decide) ?_
      refine r_iaddR kx_116_44 (fun v7 v7a v7b => ?_)
      exact s_iret kx_116_45 (Or.inl kq_116) ⟨_, rfl, rfl, trivial⟩
    · replace v5p := v5p.resolve_right (by omega)
      refine s_aload_n kx_116_29 rfl ?_
      refine r_getR (k := t) (f := 11) (k2 := (t + 8)) kx_116_30 kp_116_46 (tkt_0 hT ht) kf_9_11 (by decide) (rqt_11 hI ht) ?_
      refine s_aload_n kx_116_33 rfl ?_
      refine r_getR (k := t) (f := 12) (k2 := (t + 9)) kx_116_34 kp_116_49 (tkt_0 hT ht) kf_9_12 (by decide) (rqt_12 hI ht) ?_
      refine s_iload_n kx_116_37 rfl ?_
      refine r_aldK (k := (t + 9)) kx_116_38 (tkt_9 hT ht) ⟨by omega, by omega⟩ v4e ?_
      refine r_aldU (k := (t + 8)) kx_116_39 (tkt_8 hT ht) ⟨by omega, by omega⟩ (fun v8 v8e => ?_)
      refine s_goto (t := 44) kx_116_40 (by decide) ?_
      refine r_iaddR kx_116_44 (fun v9 v9a v9b => ?_)
      exact s_iret kx_116_45 (Or.inl kq_116) ⟨_, rfl, rfl, trivial⟩
  · replace v1p := v1p.resolve_left (by omega)
    refine s_iconst (v := 0) kx_116_8 (by decide) ?_
    exact s_iret kx_116_9 (Or.inl kq_116) ⟨_, rfl, rfl, trivial⟩
def wy (M : cM) (t : Nat) (a b : Int) : Int := if 0 ≤ a ∧ a < M t 0 ∧ 0 ≤ b ∧ b < M t 0 then M (t + 4) (a * 8 + b).toNat else 0
def nbC (M : cM) (t : Nat) (a : Int) : Nat → Int
  | 0 => 0
  | n + 1 => nbC M t a n + (if 0 < wy M t a n then 1 else 0)
theorem nbC_step {M : cM} {t : Nat} {a b : Int} (h : 0 ≤ b) : (nbC M t a (b + 1).toNat = nbC M t a b.toNat + 1 ∧ 0 < wy M t a b) ∨ (nbC M t a (b + 1).toNat = nbC M t a b.toNat ∧ ¬ 0 < wy M t a b) := by
  have e : (b + 1).toNat = b.toNat + 1 := by omega
  have e2 : ((b.toNat : Nat) : Int) = b := by omega
  have e3 : nbC M t a (b.toNat + 1) = nbC M t a b.toNat + (if 0 < wy M t a ((b.toNat : Nat) : Int) then 1 else 0) := rfl
  rw [e, e3, e2]
  split
  next g => exact Or.inl ⟨rfl, g⟩
  next g => exact Or.inr ⟨by omega, g⟩
theorem kx_117_0 : x_code k_P 117 0 = some (.aload_n 0, 1) := by decide +kernel
theorem kx_117_1 : x_code k_P 117 1 = some (.iload_n 1, 1) := by decide +kernel
theorem kx_117_2 : x_code k_P 117 2 = some (.invokevirtual 78, 3) := by decide +kernel
theorem kp_117_78 : x_pool k_P 117 78 = (2, 106, 1) := by decide +kernel
theorem kx_117_5 : x_code k_P 117 5 = some (.ifCond .eq 25, 3) := by decide +kernel
theorem kx_117_30 : x_code k_P 117 30 = some (.iconst 0, 1) := by decide +kernel
theorem kx_117_31 : x_code k_P 117 31 = some (.ireturn, 1) := by decide +kernel
theorem kq_117 : x_retk k_P 117 = 1 := by decide +kernel
theorem kx_117_8 : x_code k_P 117 8 = some (.aload_n 0, 1) := by decide +kernel
theorem kx_117_9 : x_code k_P 117 9 = some (.iload_n 2, 1) := by decide +kernel
theorem kx_117_10 : x_code k_P 117 10 = some (.invokevirtual 78, 3) := by decide +kernel
theorem kx_117_13 : x_code k_P 117 13 = some (.ifCond .eq 17, 3) := by decide +kernel
theorem kx_117_16 : x_code k_P 117 16 = some (.aload_n 0, 1) := by decide +kernel
theorem kx_117_17 : x_code k_P 117 17 = some (.getfield 34, 3) := by decide +kernel
theorem kp_117_34 : x_pool k_P 117 34 = (1, 9, 7) := by decide +kernel
theorem kx_117_20 : x_code k_P 117 20 = some (.iload_n 1, 1) := by decide +kernel
theorem kx_117_21 : x_code k_P 117 21 = some (.bipush 8, 2) := by decide +kernel
theorem kx_117_23 : x_code k_P 117 23 = some (.imul, 1) := by decide +kernel
theorem kx_117_24 : x_code k_P 117 24 = some (.iload_n 2, 1) := by decide +kernel
theorem kx_117_25 : x_code k_P 117 25 = some (.iadd, 1) := by decide +kernel
theorem kx_117_26 : x_code k_P 117 26 = some (.iaload, 1) := by decide +kernel
theorem kx_117_27 : x_code k_P 117 27 = some (.goto 4, 3) := by decide +kernel
theorem m_117 {xs : Nat → Int} {Ln d : Nat} {T : List cK} {M : cM} (hT : TT T) (hI : Rng M) {t : Nat} (ht : t = 8 ∨ t = 25) {a b : Int} : cC k_P xs Ln (d + 1) 117 [rf t, (0, a), (0, b)] (T, M) (qF T M 0 (fun v => v = wy M t a b ∧ (v = 0 ∨ 0 ≤ a ∧ a < M t 0 ∧ a ≤ 7 ∧ 0 ≤ b ∧ b < M t 0 ∧ b ≤ 7))) := by
  show cP k_P xs Ln (d + 1) 117 0 [(0, rf t), (1, (0, a)), (2, (0, b))] [] (T, M) _
  refine s_aload_n kx_117_0 rfl ?_
  refine s_iload_n kx_117_1 rfl ?_
  refine s_callV2 (k := t) (s1 := 2) (s2 := 0) (as := [(0, a)]) (rest := []) kx_117_2 kp_117_78 (Or.inl rfl) rfl (tkt_0 hT ht) ki_106 kcl_106 rfl rfl (by decide) (m_106 (d := d) (room := a) hT hI ht) (kF (fun v1 v1p => ?_))
  refine s_if_eq (t := 30) kx_117_5 (by decide) (fun hc2 => ?_) (fun hc2 => ?_)
  · replace v1p := v1p.resolve_left (by omega)
    refine s_iconst (v := 0) kx_117_30 (by decide) ?_
    exact s_iret kx_117_31 (Or.inl kq_117) ⟨_, rfl, rfl, ⟨by unfold wy; split <;> omega, by omega⟩⟩
  · replace v1p := v1p.resolve_right (by omega)
    refine s_aload_n kx_117_8 rfl ?_
    refine s_iload_n kx_117_9 rfl ?_
    refine s_callV2 (k := t) (s1 := 2) (s2 := 0) (as := [(0, b)]) (rest := []) kx_117_10 kp_117_78 (Or.inl rfl) rfl (tkt_0 hT ht) ki_106 kcl_106 rfl rfl (by decide) (m_106 (d := d) (room := b) hT hI ht) (kF (fun v3 v3p => ?_))
    refine s_if_eq (t := 30) kx_117_13 (by decide) (fun hc4 => ?_) (fun hc4 => ?_)
    · replace v3p := v3p.resolve_left (by omega)
      refine s_iconst (v := 0) kx_117_30 (by decide) ?_
      exact s_iret kx_117_31 (Or.inl kq_117) ⟨_, rfl, rfl, ⟨by unfold wy; split <;> omega, by omega⟩⟩
    · replace v3p := v3p.resolve_right (by omega)
      refine s_aload_n kx_117_16 rfl ?_
      refine r_getR (k := t) (f := 7) (k2 := (t + 4)) kx_117_17 kp_117_34 (tkt_0 hT ht) kf_9_7 (by decide) (rqt_7 hI ht) ?_
      refine s_iload_n kx_117_20 rfl ?_
      refine s_bipush (v := 8) kx_117_21 (by decide) ?_
      refine r_mul kx_117_23 ⟨by omega, by omega⟩ ?_
      refine s_iload_n kx_117_24 rfl ?_
      refine r_add kx_117_25 ⟨by omega, by omega⟩ ?_
      refine r_aldU (k := (t + 4)) kx_117_26 (tkt_4 hT ht) ⟨by omega, by omega⟩ (fun v5 v5e => ?_)
      refine s_goto (t := 31) kx_117_27 (by decide) ?_
      exact s_iret kx_117_31 (Or.inl kq_117) ⟨_, rfl, rfl, ⟨by unfold wy; split <;> omega, by omega⟩⟩
theorem kx_118_0 : x_code k_P 118 0 = some (.iconst 0, 1) := by decide +kernel
theorem kx_118_1 : x_code k_P 118 1 = some (.istore_n 2, 1) := by decide +kernel
theorem km_118_2 : 2 < x_maxL k_P 118 := by decide +kernel
theorem kx_118_2 : x_code k_P 118 2 = some (.iconst 0, 1) := by decide +kernel
theorem kx_118_3 : x_code k_P 118 3 = some (.istore_n 3, 1) := by decide +kernel
theorem km_118_3 : 3 < x_maxL k_P 118 := by decide +kernel
theorem kx_118_4 : x_code k_P 118 4 = some (.iload_n 3, 1) := by decide +kernel
theorem kx_118_5 : x_code k_P 118 5 = some (.aload_n 0, 1) := by decide +kernel
theorem kx_118_6 : x_code k_P 118 6 = some (.getfield 9, 3) := by decide +kernel
theorem kp_118_9 : x_pool k_P 118 9 = (1, 9, 0) := by decide +kernel
theorem kx_118_9 : x_code k_P 118 9 = some (.if_icmp .ge 26, 3) := by decide +kernel
theorem kx_118_35 : x_code k_P 118 35 = some (.iload_n 2, 1) := by decide +kernel
theorem kx_118_36 : x_code k_P 118 36 = some (.ireturn, 1) := by decide +kernel
theorem kq_118 : x_retk k_P 118 = 1 := by decide +kernel
theorem kx_118_12 : x_code k_P 118 12 = some (.iload_n 2, 1) := by decide +kernel
theorem kx_118_13 : x_code k_P 118 13 = some (.aload_n 0, 1) := by decide +kernel
theorem kx_118_14 : x_code k_P 118 14 = some (.iload_n 1, 1) := by decide +kernel
theorem kx_118_15 : x_code k_P 118 15 = some (.iload_n 3, 1) := by decide +kernel
theorem kx_118_16 : x_code k_P 118 16 = some (.invokevirtual 85, 3) := by decide +kernel
theorem kp_118_85 : x_pool k_P 118 85 = (2, 117, 2) := by decide +kernel
theorem ki_117 : x_mci k_P 117 = 9 := by decide +kernel
theorem kcl_117 : x_maxL k_P 117 ≤ 60 ∧ 3 ≤ x_maxL k_P 117 := by decide +kernel
theorem kx_118_19 : x_code k_P 118 19 = some (.ifCond .le 7, 3) := by decide +kernel
theorem kx_118_26 : x_code k_P 118 26 = some (.iconst 0, 1) := by decide +kernel
theorem kx_118_27 : x_code k_P 118 27 = some (.iadd, 1) := by decide +kernel
theorem kx_118_28 : x_code k_P 118 28 = some (.istore_n 2, 1) := by decide +kernel
theorem kx_118_29 : x_code k_P 118 29 = some (.iinc 3 1, 3) := by decide +kernel
theorem kx_118_32 : x_code k_P 118 32 = some (.goto (-28), 3) := by decide +kernel
theorem kx_118_22 : x_code k_P 118 22 = some (.iconst 1, 1) := by decide +kernel
theorem kx_118_23 : x_code k_P 118 23 = some (.goto 4, 3) := by decide +kernel
theorem m_118 {xs : Nat → Int} {Ln d : Nat} {T : List cK} {M : cM} (hT : TT T) (hI : Rng M) {t : Nat} (ht : t = 8 ∨ t = 25) {a : Int} : cC k_P xs Ln (d + 2) 118 [rf t, (0, a)] (T, M) (qF T M 0 (fun v => 0 ≤ v ∧ v ≤ 8 ∧ (v = nbC M t a (M t 0).toNat))) := by
  show cP k_P xs Ln (d + 2) 118 0 [(0, rf t), (1, (0, a))] [] (T, M) _
  refine s_iconst (v := 0) kx_118_0 (by decide) ?_
  refine s_istore_n kx_118_1 km_118_2 rfl ?_
  refine s_iconst (v := 0) kx_118_2 (by decide) ?_
  refine s_istore_n kx_118_3 km_118_3 rfl ?_
  have key3 : ∀ n4 : Nat, ∀ (x2_1 x3_2 : Int), (0 ≤ x2_1) → (x2_1 ≤ 8) → (0 ≤ x3_2) → (x2_1 = nbC M t a (x3_2).toNat) → (0 ≤ x2_1) → (x2_1 ≤ x3_2) → (x3_2 ≤ M t 0) → (2147483647 - x3_2).toNat < n4 → cP k_P xs Ln (d + 2) 118 4 [(0, rf t), (1, (0, a)), (2, (0, x2_1)), (3, (0, x3_2))] [] (T, M) (qF T M 0 (fun v => 0 ≤ v ∧ v ≤ 8 ∧ (v = nbC M t a (M t 0).toNat))) := by
    intro n4
    induction n4 with
    | zero => intro x2_1 x3_2 i5 i6 i7 i8 i9 i10 i11 hm12; exact absurd hm12 (Nat.not_lt_zero _)
    | succ n4 ih13 =>
      intro x2_1 x3_2 i5 i6 i7 i8 i9 i10 i11 hm12
      refine s_iload_n kx_118_4 rfl ?_
      refine s_aload_n kx_118_5 rfl ?_
      refine r_getI (k := t) (f := 0) kx_118_6 kp_118_9 (tkt_0 hT ht) kf_9_0 (fun _ => rfl) (rgt_0_0 hI ht) (fun v14 v14e v14a v14b => ?_)
      refine s_icmp_ge (t := 35) kx_118_9 (by decide) (fun hc15 => ?_) (fun hc15 => ?_)
      · refine s_iload_n kx_118_35 rfl ?_
        exact s_iret kx_118_36 (Or.inl kq_118) ⟨_, rfl, rfl, ⟨by omega, by omega, by rw [show M t 0 = x3_2 by omega]; omega⟩⟩
      · refine s_iload_n kx_118_12 rfl ?_
        refine s_aload_n kx_118_13 rfl ?_
        refine s_iload_n kx_118_14 rfl ?_
        refine s_iload_n kx_118_15 rfl ?_
        refine s_callV2 (k := t) (s1 := 3) (s2 := 1) (as := [(0, x3_2), (0, a)]) (rest := [(0, x2_1)]) kx_118_16 kp_118_85 (Or.inl rfl) rfl (tkt_0 hT ht) ki_117 kcl_117 rfl rfl (by decide) (m_117 (d := d) (a := a) (b := x3_2) hT hI ht) (kF (fun v16 v16p => ?_))
        refine s_if_le (t := 26) kx_118_19 (by decide) (fun hc17 => ?_) (fun hc17 => ?_)
        · refine s_iconst (v := 0) kx_118_26 (by decide) ?_
          refine r_add kx_118_27 ⟨by omega, by omega⟩ ?_
          refine s_istore_n kx_118_28 km_118_2 rfl ?_
          refine r_iinc kx_118_29 rfl km_118_3 (by decide) ⟨by omega, by omega⟩ rfl ?_
          refine s_goto (t := 4) kx_118_32 (by decide) ?_
          have hst := @nbC_step M t a _ (show 0 ≤ x3_2 by omega)
          exact cP.wk (lS1 rfl (lS1 rfl (lS1 rfl (lS1 rfl lS0)))) (ih13 (x2_1 + 0) (x3_2 + 1) (by omega) (by omega) (by omega) (by omega) (by omega) (by omega) (by omega) (by omega))
        · refine s_iconst (v := 1) kx_118_22 (by decide) ?_
          refine s_goto (t := 27) kx_118_23 (by decide) ?_
          refine r_add kx_118_27 ⟨by omega, by omega⟩ ?_
          refine s_istore_n kx_118_28 km_118_2 rfl ?_
          refine r_iinc kx_118_29 rfl km_118_3 (by decide) ⟨by omega, by omega⟩ rfl ?_
          refine s_goto (t := 4) kx_118_32 (by decide) ?_
          have hst := @nbC_step M t a _ (show 0 ≤ x3_2 by omega)
          exact cP.wk (lS1 rfl (lS1 rfl (lS1 rfl (lS1 rfl lS0)))) (ih13 (x2_1 + 1) (x3_2 + 1) (by omega) (by omega) (by omega) (by omega) (by omega) (by omega) (by omega) (by omega))
  have hz : nbC M t a (0 : Int).toNat = 0 := rfl
  have hr := rgt_0_0 hI ht
  exact cP.wk (lS1 rfl (lS1 rfl (lS1 rfl (lS1 rfl lS0)))) (key3 _ 0 0 (by omega) (by omega) (by omega) (by omega) (by omega) (by omega) (by omega) (Nat.lt_succ_self _))
theorem kx_119_0 : x_code k_P 119 0 = some (.iconst 0, 1) := by decide +kernel
theorem kx_119_1 : x_code k_P 119 1 = some (.istore_n 3, 1) := by decide +kernel
theorem km_119_3 : 3 < x_maxL k_P 119 := by decide +kernel
theorem kx_119_2 : x_code k_P 119 2 = some (.iconst 0, 1) := by decide +kernel
theorem kx_119_3 : x_code k_P 119 3 = some (.istore 4, 2) := by decide +kernel
theorem km_119_4 : 4 < x_maxL k_P 119 := by decide +kernel
theorem kx_119_5 : x_code k_P 119 5 = some (.iload 4, 2) := by decide +kernel
theorem kx_119_7 : x_code k_P 119 7 = some (.aload_n 0, 1) := by decide +kernel
theorem kx_119_8 : x_code k_P 119 8 = some (.getfield 9, 3) := by decide +kernel
theorem kp_119_9 : x_pool k_P 119 9 = (1, 9, 0) := by decide +kernel
theorem kx_119_11 : x_code k_P 119 11 = some (.if_icmp .ge 30, 3) := by decide +kernel
theorem kx_119_41 : x_code k_P 119 41 = some (.iconst (-1), 1) := by decide +kernel
theorem kx_119_42 : x_code k_P 119 42 = some (.ireturn, 1) := by decide +kernel
theorem kx_119_14 : x_code k_P 119 14 = some (.aload_n 0, 1) := by decide +kernel
theorem kx_119_15 : x_code k_P 119 15 = some (.iload_n 1, 1) := by decide +kernel
theorem kx_119_16 : x_code k_P 119 16 = some (.iload 4, 2) := by decide +kernel
theorem kx_119_18 : x_code k_P 119 18 = some (.invokevirtual 85, 3) := by decide +kernel
theorem kp_119_85 : x_pool k_P 119 85 = (2, 117, 2) := by decide +kernel
theorem kx_119_21 : x_code k_P 119 21 = some (.ifCond .le 14, 3) := by decide +kernel
theorem kx_119_35 : x_code k_P 119 35 = some (.iinc 4 1, 3) := by decide +kernel
theorem kx_119_38 : x_code k_P 119 38 = some (.goto (-33), 3) := by decide +kernel
theorem kx_119_24 : x_code k_P 119 24 = some (.iload_n 3, 1) := by decide +kernel
theorem kx_119_25 : x_code k_P 119 25 = some (.iload_n 2, 1) := by decide +kernel
theorem kx_119_26 : x_code k_P 119 26 = some (.if_icmp .ne 6, 3) := by decide +kernel
theorem kx_119_32 : x_code k_P 119 32 = some (.iinc 3 1, 3) := by decide +kernel
theorem kx_119_29 : x_code k_P 119 29 = some (.iload 4, 2) := by decide +kernel
theorem kx_119_31 : x_code k_P 119 31 = some (.ireturn, 1) := by decide +kernel
theorem kq_119 : x_retk k_P 119 = 1 := by decide +kernel
theorem m_119 {xs : Nat → Int} {Ln d : Nat} {T : List cK} {M : cM} (hT : TT T) (hI : Rng M) {t : Nat} (ht : t = 8 ∨ t = 25) {a which : Int} (p0 : 0 ≤ which) (p1 : which < nbC M t a (M t 0).toNat) : cC k_P xs Ln (d + 2) 119 [rf t, (0, a), (0, which)] (T, M) (qF T M 0 (fun v => 0 ≤ v ∧ v ≤ 7 ∧ (v < M t 0 ∧ 0 < wy M t a v))) := by
  show cP k_P xs Ln (d + 2) 119 0 [(0, rf t), (1, (0, a)), (2, (0, which))] [] (T, M) _
  refine s_iconst (v := 0) kx_119_0 (by decide) ?_
  refine s_istore_n kx_119_1 km_119_3 rfl ?_
  refine s_iconst (v := 0) kx_119_2 (by decide) ?_
  refine s_istore kx_119_3 km_119_4 rfl ?_
  have key3 : ∀ n4 : Nat, ∀ (x3_1 x4_2 : Int), (0 ≤ x3_1) → (x3_1 ≤ 8) → (0 ≤ x4_2) → (x3_1 = nbC M t a (x4_2).toNat) → (0 ≤ x3_1) → (x3_1 ≤ which) → (x3_1 ≤ x4_2) → (x4_2 ≤ M t 0) → (2147483647 - x4_2).toNat < n4 → cP k_P xs Ln (d + 2) 119 5 [(0, rf t), (1, (0, a)), (2, (0, which)), (3, (0, x3_1)), (4, (0, x4_2))] [] (T, M) (qF T M 0 (fun v => 0 ≤ v ∧ v ≤ 7 ∧ (v < M t 0 ∧ 0 < wy M t a v))) := by
    intro n4
    induction n4 with
    | zero => intro x3_1 x4_2 i5 i6 i7 i8 i9 i10 i11 i12 hm13; exact absurd hm13 (Nat.not_lt_zero _)
    | succ n4 ih14 =>
      intro x3_1 x4_2 i5 i6 i7 i8 i9 i10 i11 i12 hm13
      refine s_iload kx_119_5 rfl ?_
      refine s_aload_n kx_119_7 rfl ?_
      refine r_getI (k := t) (f := 0) kx_119_8 kp_119_9 (tkt_0 hT ht) kf_9_0 (fun _ => rfl) (rgt_0_0 hI ht) (fun v15 v15e v15a v15b => ?_)
      refine s_icmp_ge (t := 41) kx_119_11 (by decide) (fun hc16 => ?_) (fun hc16 => ?_)
      · refine s_iconst (v := (-1)) kx_119_41 (by decide) ?_
        exfalso
        rw [show M t 0 = x4_2 by omega] at p1
        omega
      · refine s_aload_n kx_119_14 rfl ?_
        refine s_iload_n kx_119_15 rfl ?_
        refine s_iload kx_119_16 rfl ?_
        refine s_callV2 (k := t) (s1 := 3) (s2 := 0) (as := [(0, x4_2), (0, a)]) (rest := []) kx_119_18 kp_119_85 (Or.inl rfl) rfl (tkt_0 hT ht) ki_117 kcl_117 rfl rfl (by decide) (m_117 (d := d) (a := a) (b := x4_2) hT hI ht) (kF (fun v17 v17p => ?_))
        refine s_if_le (t := 35) kx_119_21 (by decide) (fun hc18 => ?_) (fun hc18 => ?_)
        · refine r_iinc kx_119_35 rfl km_119_4 (by decide) ⟨by omega, by omega⟩ rfl ?_
          refine s_goto (t := 5) kx_119_38 (by decide) ?_
          have hst := @nbC_step M t a _ (show 0 ≤ x4_2 by omega)
          exact cP.wk (lS1 rfl (lS1 rfl (lS1 rfl (lS1 rfl (lS1 rfl lS0))))) (ih14 x3_1 (x4_2 + 1) (by omega) (by omega) (by omega) (by omega) (by omega) (by omega) (by omega) (by omega) (by omega))
        · refine s_iload_n kx_119_24 rfl ?_
          refine s_iload_n kx_119_25 rfl ?_
          refine s_icmp_ne (t := 32) kx_119_26 (by decide) (fun hc19 => ?_) (fun hc19 => ?_)
          · refine r_iinc kx_119_32 rfl km_119_3 (by decide) ⟨by omega, by omega⟩ rfl ?_
            refine r_iinc kx_119_35 rfl km_119_4 (by decide) ⟨by omega, by omega⟩ rfl ?_
            refine s_goto (t := 5) kx_119_38 (by decide) ?_
            have hst := @nbC_step M t a _ (show 0 ≤ x4_2 by omega)
            exact cP.wk (lS1 rfl (lS1 rfl (lS1 rfl (lS1 rfl (lS1 rfl lS0))))) (ih14 (x3_1 + 1) (x4_2 + 1) (by omega) (by omega) (by omega) (by omega) (by omega) (by omega) (by omega) (by omega) (by omega))
          · refine s_iload kx_119_29 rfl ?_
            exact s_iret kx_119_31 (Or.inl kq_119) ⟨_, rfl, rfl, (by omega)⟩
  have hz : nbC M t a (0 : Int).toNat = 0 := rfl
  have hr := rgt_0_0 hI ht
  exact cP.wk (lS1 rfl (lS1 rfl (lS1 rfl (lS1 rfl (lS1 rfl lS0))))) (key3 _ 0 0 (by omega) (by omega) (by omega) (by omega) (by omega) (by omega) (by omega) (by omega) (Nat.lt_succ_self _))
