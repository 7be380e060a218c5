theorem kx_0_18 : x_code k_P 0 18 = some (.iload_n 3, 1) := by decide +kernel
theorem kx_0_19 : x_code k_P 0 19 = some (.aload_n 0, 1) := by decide +kernel
theorem kx_0_20 : x_code k_P 0 20 = some (.arraylength, 1) := by decide +kernel
theorem kx_0_21 : x_code k_P 0 21 = some (.bipush 6, 2) := by decide +kernel
theorem kx_0_23 : x_code k_P 0 23 = some (.isub, 1) := by decide +kernel
theorem kx_0_24 : x_code k_P 0 24 = some (.if_icmp .gt 1003, 3) := by decide +kernel
theorem kx_0_27 : x_code k_P 0 27 = some (.aload_n 0, 1) := by decide +kernel
theorem kx_0_28 : x_code k_P 0 28 = some (.iload_n 3, 1) := by decide +kernel
theorem kx_0_29 : x_code k_P 0 29 = some (.iaload, 1) := by decide +kernel
theorem kx_0_30 : x_code k_P 0 30 = some (.bipush 31, 2) := by decide +kernel
theorem kx_0_32 : x_code k_P 0 32 = some (.iand, 1) := by decide +kernel
theorem kx_0_33 : x_code k_P 0 33 = some (.tableswitch 988 0 28 #[131, 194, 217, 230, 253, 276, 319, 352, 385, 418, 451, 494, 537, 570, 603, 626, 639, 662, 695, 748, 791, 814, 837, 870, 883, 916, 929, 952, 965], 131) := by decide +kernel
theorem kx_0_1021 : x_code k_P 0 1021 = some (.iinc 3 6, 3) := by decide +kernel
theorem kx_0_1024 : x_code k_P 0 1024 = some (.goto (-1006), 3) := by decide +kernel
theorem kx_0_1027 : x_code k_P 0 1027 = some (.iconst 1, 1) := by decide +kernel
theorem kx_0_1028 : x_code k_P 0 1028 = some (.ireturn, 1) := by decide +kernel
theorem kq_0 : x_retk k_P 0 = 2 := by decide +kernel
theorem lw_loop {xs : Nat → Int} {Ln d : Nat} (hx : ∀ j, -2147483648 ≤ xs j ∧ xs j ≤ 2147483647) (hLn : Ln ≤ 3072) : ∀ (n : Nat) (i : Int) (T : List cK) (M : cM), LI T M → 0 ≤ i → i ≤ 3072 → (4000 - i).toNat < n → cP k_P xs Ln (d + 88) 0 18 [(3, (0, i)), (2, rf 63), (1, rf 0), (0, (4, 0))] [] (T, M) (fun r h => r = some (0, 1) ∧ LI h.1 h.2) := by
  intro n
  induction n with
  | zero => intro i T M _ _ _ h; exact absurd h (Nat.not_lt_zero _)
  | succ n ih =>
    intro i T M hL h0 h1 hm
    refine s_iload_n kx_0_18 rfl ?_
    refine s_aload_nS kx_0_19 rfl ?_
    refine l_alen kx_0_20 ?_
    refine s_bipush (v := 6) kx_0_21 (by decide) ?_
    refine r_sub kx_0_23 ⟨by omega, by omega⟩ ?_
    refine s_icmp_gt (t := 1027) kx_0_24 (by decide) (fun hc => ?_) (fun hc => ?_)
    · refine s_iconst (v := 1) kx_0_1027 (by decide) ?_
      exact s_iret kx_0_1028 (Or.inr ⟨kq_0, Or.inr rfl⟩) ⟨rfl, hL⟩
    · have kk : ∀ T1 M1, LI T1 M1 → cP k_P xs Ln (d + 88) 0 1021 [(3, (0, i)), (2, rf 63), (1, rf 0), (0, (4, 0))] [] (T1, M1) (fun r h => r = some (0, 1) ∧ LI h.1 h.2) := by
        intro T1 M1 hL1
        refine r_iinc kx_0_1021 rfl km_0_3 (by decide) ⟨by omega, by omega⟩ rfl ?_
        refine s_goto (t := 18) kx_0_1024 (by decide) ?_
        exact ih (i + 6) T1 M1 hL1 (by omega) (by omega) (by omega)
      refine s_aload_nS kx_0_27 rfl ?_
      refine s_iload_n kx_0_28 rfl ?_
      refine l_ald kx_0_29 ⟨by omega, by omega⟩ (fun v ve => ?_)
      refine s_bipush (v := 31) kx_0_30 (by decide) ?_
      refine r_iandM kx_0_32 (by decide) (by decide) (fun z za zb => ?_)
      obtain ⟨hT, hI, hG, hS, hl, h2, hft, t, u, hux, h70, h71, hst, hsc⟩ := id hL
      have ht : t = 8 ∨ t = 25 := by omega
      have hu : u = 8 ∨ u = 25 := by omega
      rcases (by omega : z = 0 ∨ z = 1 ∨ z = 2 ∨ z = 3 ∨ z = 4 ∨ z = 5 ∨ z = 6 ∨ z = 7 ∨ z = 8 ∨ z = 9 ∨ z = 10 ∨ z = 11 ∨ z = 12 ∨ z = 13 ∨ z = 14 ∨ z = 15 ∨ z = 16 ∨ z = 17 ∨ z = 18 ∨ z = 19 ∨ z = 20 ∨ z = 21 ∨ z = 22 ∨ z = 23 ∨ z = 24 ∨ z = 25 ∨ z = 26 ∨ z = 27 ∨ z = 28 ∨ (z < 0 ∨ 28 < z)) with hs | hs | hs | hs | hs | hs | hs | hs | hs | hs | hs | hs | hs | hs | hs | hs | hs | hs | hs | hs | hs | hs | hs | hs | hs | hs | hs | hs | hs | hs
      · refine s_tsw (t := 164) kx_0_33 (by decide) 0 hs (by decide) ?_
        exact lw_0 hT hI hG hS hl h2 hft ht hu h70 h71 hux hst hsc hx ⟨by omega, by omega, by omega⟩ kk
      · refine s_tsw (t := 227) kx_0_33 (by decide) 1 hs (by decide) ?_
        exact lw_1 hT hI hG hS hl h2 hft ht hu h70 h71 hux hst hsc hx ⟨by omega, by omega, by omega⟩ kk
      · refine s_tsw (t := 250) kx_0_33 (by decide) 2 hs (by decide) ?_
        exact lw_2 hT hI hG hS hl h2 hft hu ht h71 h70 (by omega) hst hsc hx ⟨by omega, by omega, by omega⟩ kk
      · refine s_tsw (t := 263) kx_0_33 (by decide) 3 hs (by decide) ?_
        exact lw_3 hT hI hG hS hl h2 hft ht hu h70 h71 hux hst hsc hx ⟨by omega, by omega, by omega⟩ kk
      · refine s_tsw (t := 286) kx_0_33 (by decide) 4 hs (by decide) ?_
        exact lw_4 hT hI hG hS hl h2 hft ht hu h70 h71 hux hst hsc hx ⟨by omega, by omega, by omega⟩ kk
      · refine s_tsw (t := 309) kx_0_33 (by decide) 5 hs (by decide) ?_
        exact lw_5 hT hI hG hS hl h2 hft ht hu h70 h71 hux hst hsc hx ⟨by omega, by omega, by omega⟩ kk
      · refine s_tsw (t := 352) kx_0_33 (by decide) 6 hs (by decide) ?_
        exact lw_6 hT hI hG hS hl h2 hft ht hu h70 h71 hux hst hsc hx ⟨by omega, by omega, by omega⟩ kk
      · refine s_tsw (t := 385) kx_0_33 (by decide) 7 hs (by decide) ?_
        exact lw_7 hT hI hG hS hl h2 hft ht hu h70 h71 hux hst hsc hx ⟨by omega, by omega, by omega⟩ kk
      · refine s_tsw (t := 418) kx_0_33 (by decide) 8 hs (by decide) ?_
        exact lw_8 hT hI hG hS hl h2 hft ht hu h70 h71 hux hst hsc hx ⟨by omega, by omega, by omega⟩ kk
      · refine s_tsw (t := 451) kx_0_33 (by decide) 9 hs (by decide) ?_
        exact lw_9 hT hI hG hS hl h2 hft ht hu h70 h71 hux hst hsc hx ⟨by omega, by omega, by omega⟩ kk
      · refine s_tsw (t := 484) kx_0_33 (by decide) 10 hs (by decide) ?_
        exact lw_10 hT hI hG hS hl h2 hft ht hu h70 h71 hux hst hsc hx ⟨by omega, by omega, by omega⟩ kk
      · refine s_tsw (t := 527) kx_0_33 (by decide) 11 hs (by decide) ?_
        exact lw_11 hT hI hG hS hl h2 hft ht hu h70 h71 hux hst hsc hx ⟨by omega, by omega, by omega⟩ kk
      · refine s_tsw (t := 570) kx_0_33 (by decide) 12 hs (by decide) ?_
        exact lw_12 hT hI hG hS hl h2 hft ht hu h70 h71 hux hst hsc hx ⟨by omega, by omega, by omega⟩ kk
      · refine s_tsw (t := 603) kx_0_33 (by decide) 13 hs (by decide) ?_
        exact lw_13 hT hI hG hS hl h2 hft ht hu h70 h71 hux hst hsc hx ⟨by omega, by omega, by omega⟩ kk
      · refine s_tsw (t := 636) kx_0_33 (by decide) 14 hs (by decide) ?_
        exact lw_14 hT hI hG hS hl h2 hft ht hu h70 h71 hux hst hsc hx ⟨by omega, by omega, by omega⟩ kk
      · refine s_tsw (t := 659) kx_0_33 (by decide) 15 hs (by decide) ?_
        exact lw_15 hT hI hG hS hl h2 hft ht hu h70 h71 hux hst hsc hx ⟨by omega, by omega, by omega⟩ kk
      · refine s_tsw (t := 672) kx_0_33 (by decide) 16 hs (by decide) ?_
        exact lw_16 hT hI hG hS hl h2 hft ht hu h70 h71 hux hst hsc hx ⟨by omega, by omega, by omega⟩ kk
      · refine s_tsw (t := 695) kx_0_33 (by decide) 17 hs (by decide) ?_
        exact lw_17 hT hI hG hS hl h2 hft ht hu h70 h71 hux hst hsc hx ⟨by omega, by omega, by omega⟩ kk
      · refine s_tsw (t := 728) kx_0_33 (by decide) 18 hs (by decide) ?_
        exact lw_18 hT hI hG hS hl h2 hft ht hu h70 h71 hux hst hsc hx ⟨by omega, by omega, by omega⟩ kk
      · refine s_tsw (t := 781) kx_0_33 (by decide) 19 hs (by decide) ?_
        exact lw_19 hT hI hG hS hl h2 hft ht hu h70 h71 hux hst hsc hx ⟨by omega, by omega, by omega⟩ kk
      · refine s_tsw (t := 824) kx_0_33 (by decide) 20 hs (by decide) ?_
        exact lw_20 hT hI hG hS hl h2 hft ht hu h70 h71 hux hst hsc hx ⟨by omega, by omega, by omega⟩ kk
      · refine s_tsw (t := 847) kx_0_33 (by decide) 21 hs (by decide) ?_
        exact lw_21 hT hI hG hS hl h2 hft ht hu h70 h71 hux hst hsc hx ⟨by omega, by omega, by omega⟩ kk
      · refine s_tsw (t := 870) kx_0_33 (by decide) 22 hs (by decide) ?_
        exact lw_22 hT hI hG hS hl h2 hft ht hu h70 h71 hux hst hsc hx ⟨by omega, by omega, by omega⟩ kk
      · refine s_tsw (t := 903) kx_0_33 (by decide) 23 hs (by decide) ?_
        exact lw_23 hT hI hG hS hl h2 hft ht hu h70 h71 hux hst hsc hx ⟨by omega, by omega, by omega⟩ kk
      · refine s_tsw (t := 916) kx_0_33 (by decide) 24 hs (by decide) ?_
        exact lw_24 hT hI hG hS hl h2 hft ht hu h70 h71 hux hst hsc hx ⟨by omega, by omega, by omega⟩ kk
      · refine s_tsw (t := 949) kx_0_33 (by decide) 25 hs (by decide) ?_
        exact lw_25 hT hI hG hS hl h2 hft ht hu h70 h71 hux hst hsc hx ⟨by omega, by omega, by omega⟩ kk
      · refine s_tsw (t := 962) kx_0_33 (by decide) 26 hs (by decide) ?_
        exact lw_26 hT hI hG hS hl h2 hft ht hu h70 h71 hux hst hsc hx ⟨by omega, by omega, by omega⟩ kk
      · refine s_tsw (t := 985) kx_0_33 (by decide) 27 hs (by decide) ?_
        exact lw_27 hT hI hG hS hl h2 hft ht hu h70 h71 hux hst hsc hx ⟨by omega, by omega, by omega⟩ kk
      · refine s_tsw (t := 998) kx_0_33 (by decide) 28 hs (by decide) ?_
        exact lw_28 hT hI hG hS hl h2 hft ht hu h70 h71 hux hst hsc hx ⟨by omega, by omega, by omega⟩ kk
      · refine s_tswD (t := 1021) kx_0_33 (by decide) hs (by decide) ?_
        exact kk T M hL
theorem lw_run {xs : Nat → Int} {Ln : Nat} (hx : ∀ j, -2147483648 ≤ xs j ∧ xs j ≤ 2147483647) (hLn : Ln ≤ 3072) : ∃ n h', c_exec k_P xs Ln n 88 0 0 [(0, (4, 0))] [] ([], fun _ _ => 0) = some (some (0, 1), h') ∧ h'.1.length ≤ 600000 ∧ c_sz k_P h'.1 ≤ 7302250 := by
  have h := boot (xs := xs) (Ln := Ln) (d := 84) (lw_loop (d := 0) hx hLn 4001 0 _ _ li_start (by decide) (by decide) (by decide))
  obtain ⟨r, h', ⟨n, hn⟩, rfl, hL⟩ := h
  obtain ⟨nf, hf, h1, h2, _⟩ := hL.2.2.1
  have hz : c_sz k_P k_T0 ≤ 7000000 := by decide +kernel
  obtain ⟨_, _, _, _, a1, _⟩ := hf 19 (Or.inl rfl)
  obtain ⟨_, _, _, _, a2, _⟩ := hf 22 (Or.inr (Or.inl rfl))
  obtain ⟨_, _, _, _, a3, _⟩ := hf 36 (Or.inr (Or.inr (Or.inl rfl)))
  obtain ⟨_, _, _, _, a4, _⟩ := hf 39 (Or.inr (Or.inr (Or.inr rfl)))
  exact ⟨n, h', hn, by omega, by omega⟩
