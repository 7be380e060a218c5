theorem kx_10_0 : x_code k_P 10 0 = some (.aload_n 0, 1) := by decide +kernel
theorem kx_10_1 : x_code k_P 10 1 = some (.getfield 18, 3) := by decide +kernel
theorem kx_10_4 : x_code k_P 10 4 = some (.aload_n 0, 1) := by decide +kernel
theorem kx_10_5 : x_code k_P 10 5 = some (.getfield 15, 3) := by decide +kernel
theorem kx_10_8 : x_code k_P 10 8 = some (.arraylength, 1) := by decide +kernel
theorem kx_10_9 : x_code k_P 10 9 = some (.if_icmp .lt 23, 3) := by decide +kernel
theorem kx_10_12 : x_code k_P 10 12 = some (.aload_n 0, 1) := by decide +kernel
theorem kx_10_13 : x_code k_P 10 13 = some (.aload_n 0, 1) := by decide +kernel
theorem kx_10_14 : x_code k_P 10 14 = some (.getfield 15, 3) := by decide +kernel
theorem kx_10_17 : x_code k_P 10 17 = some (.aload_n 0, 1) := by decide +kernel
theorem kx_10_18 : x_code k_P 10 18 = some (.getfield 18, 3) := by decide +kernel
theorem kx_10_21 : x_code k_P 10 21 = some (.aload_n 0, 1) := by decide +kernel
theorem kx_10_22 : x_code k_P 10 22 = some (.getfield 18, 3) := by decide +kernel
theorem kx_10_25 : x_code k_P 10 25 = some (.iadd, 1) := by decide +kernel
theorem kx_10_26 : x_code k_P 10 26 = some (.invokestatic 22, 3) := by decide +kernel
theorem kx_10_29 : x_code k_P 10 29 = some (.putfield 15, 3) := by decide +kernel
theorem kx_10_32 : x_code k_P 10 32 = some (.aload_n 0, 1) := by decide +kernel
theorem kx_10_33 : x_code k_P 10 33 = some (.getfield 15, 3) := by decide +kernel
theorem kx_10_36 : x_code k_P 10 36 = some (.aload_n 0, 1) := by decide +kernel
theorem kx_10_37 : x_code k_P 10 37 = some (.getfield 18, 3) := by decide +kernel
theorem kx_10_40 : x_code k_P 10 40 = some (.iload_n 1, 1) := by decide +kernel
theorem kx_10_41 : x_code k_P 10 41 = some (.iastore, 1) := by decide +kernel
theorem kx_10_42 : x_code k_P 10 42 = some (.aload_n 0, 1) := by decide +kernel
theorem kx_10_43 : x_code k_P 10 43 = some (.dup, 1) := by decide +kernel
theorem kx_10_44 : x_code k_P 10 44 = some (.getfield 18, 3) := by decide +kernel
theorem kx_10_47 : x_code k_P 10 47 = some (.iconst 1, 1) := by decide +kernel
theorem kx_10_48 : x_code k_P 10 48 = some (.iadd, 1) := by decide +kernel
theorem kx_10_49 : x_code k_P 10 49 = some (.putfield 18, 3) := by decide +kernel
theorem kx_10_52 : x_code k_P 10 52 = some (.return_, 1) := by decide +kernel
theorem kx_302_0 : x_code k_P 302 0 = some (.iload_n 1, 1) := by decide +kernel
theorem kx_302_1 : x_code k_P 302 1 = some (.aload_n 0, 1) := by decide +kernel
theorem kx_302_2 : x_code k_P 302 2 = some (.arraylength, 1) := by decide +kernel
theorem kx_302_3 : x_code k_P 302 3 = some (.if_icmp .ne 11, 3) := by decide +kernel
theorem kx_302_6 : x_code k_P 302 6 = some (.aload_n 0, 1) := by decide +kernel
theorem kx_302_14 : x_code k_P 302 14 = some (.iload_n 1, 1) := by decide +kernel
theorem kx_302_15 : x_code k_P 302 15 = some (.newarray .int, 2) := by decide +kernel
theorem kx_302_17 : x_code k_P 302 17 = some (.astore_n 2, 1) := by decide +kernel
theorem kx_302_18 : x_code k_P 302 18 = some (.aload_n 0, 1) := by decide +kernel
theorem kx_302_19 : x_code k_P 302 19 = some (.iconst 0, 1) := by decide +kernel
theorem kx_302_20 : x_code k_P 302 20 = some (.aload_n 2, 1) := by decide +kernel
theorem kx_302_21 : x_code k_P 302 21 = some (.iconst 0, 1) := by decide +kernel
theorem kx_302_22 : x_code k_P 302 22 = some (.aload_n 0, 1) := by decide +kernel
theorem kx_302_23 : x_code k_P 302 23 = some (.arraylength, 1) := by decide +kernel
theorem kx_302_24 : x_code k_P 302 24 = some (.iload_n 1, 1) := by decide +kernel
theorem kx_302_25 : x_code k_P 302 25 = some (.invokestatic 304, 3) := by decide +kernel
theorem kx_302_28 : x_code k_P 302 28 = some (.invokestatic 150, 3) := by decide +kernel
theorem kx_302_31 : x_code k_P 302 31 = some (.aload_n 2, 1) := by decide +kernel
theorem kx_302_32 : x_code k_P 302 32 = some (.areturn, 1) := by decide +kernel
theorem kp_10_15 : x_pool k_P 10 15 = (1, 1, 1) := by decide +kernel
theorem kp_10_18 : x_pool k_P 10 18 = (1, 1, 2) := by decide +kernel
theorem kp_10_22 : x_pool k_P 10 22 = (6, 302, 2) := by decide +kernel
theorem kp_302_304 : x_pool k_P 302 304 = (6, 299, 2) := by decide +kernel
theorem kp_302_150 : x_pool k_P 302 150 = (10, 0, 0) := by decide +kernel
theorem kq_10 : x_retk k_P 10 = 0 := by decide +kernel
theorem kq_302 : x_retk k_P 302 = 4 := by decide +kernel
theorem kcl_302 : x_maxL k_P 302 ≤ 60 ∧ 2 ≤ x_maxL k_P 302 := by decide +kernel
theorem km_302_2 : 2 < x_maxL k_P 302 := by decide +kernel
theorem m_302 {xs : Nat → Int} {Ln d : Nat} {T : List cK} {M : cM} (hT : TT T) (hI : Rng M) {s n : Nat} {z : Int} (hs : T[s]? = some (.inl (0, n))) (hn : n < 2147483648) (h0 : 0 ≤ z ∧ z ≤ 60000000) (hz : z ≠ (n : Int)) : cC k_P xs Ln (d + 1) 302 [rf s, (0, z)] (T, M) (fun r h => ∃ M1, r = some (rf T.length) ∧ h = (T ++ [.inl (0, z.toNat)], M1) ∧ Rng M1 ∧ (∀ a b, a ≠ T.length → M1 a b = M a b) ∧ ∀ q : Nat, (q : Int) < (n : Int) → (q : Int) < z → M1 T.length q = M s q) := by
  show cP k_P xs Ln (d + 1) 302 0 [(0, rf s), (1, (0, z))] [] (T, M) _
  have hl := hT.len
  refine s_iload_n kx_302_0 rfl ?_
  refine s_aload_n kx_302_1 rfl ?_
  refine r_alen (k := s) kx_302_2 hs ⟨by decide, hn⟩ ?_
  refine s_icmp_ne (t := 14) kx_302_3 (by decide) (fun _ => ?_) (fun h => absurd h hz)
  refine s_iload_n kx_302_14 rfl ?_
  refine s_newa kx_302_15 h0 ?_
  refine s_astore_n kx_302_17 km_302_2 rfl ?_
  refine s_aload_n kx_302_18 rfl ?_
  refine s_iconst (v := 0) kx_302_19 (by decide) ?_
  refine s_aload_n kx_302_20 rfl ?_
  refine s_iconst (v := 0) kx_302_21 (by decide) ?_
  refine s_aload_n kx_302_22 rfl ?_
  have hs2 : (T ++ [(.inl (0, z.toNat) : cK)])[s]? = some (.inl (0, n)) := by
    have := (List.getElem?_eq_some_iff.mp hs).1
    rw [List.getElem?_append_left this]
    exact hs
  have hs3 : (T ++ [(.inl (0, z.toNat) : cK)])[T.length]? = some (.inl (0, z.toNat)) := by
    rw [List.getElem?_append_right (Nat.le_refl _), Nat.sub_self]
    rfl
  refine r_alen (k := s) kx_302_23 hs2 ⟨by decide, hn⟩ ?_
  refine s_iload_n kx_302_24 rfl ?_
  have hI2 : Rng (c_new M T.length (fun _ => 0)) := hI.new hl
  refine s_callS2 (s1 := 2) (s2 := 4) (as := [(0, z), (0, (n : Int))]) (rest := [(0, 0), rf T.length, (0, 0), rf s]) kx_302_25 kp_302_304 rfl kcl_299 rfl rfl (by decide) (m_299 (d := d) (a := (n : Int)) (b := z) (hT.snoc _) hI2) (kF (fun w wp => ?_))
  refine r_cpy (ks := s) (kd := T.length) kx_302_28 kp_302_150 hs2 hs3 ⟨by omega, by omega, by omega, by omega, by omega⟩ (by decide) hI2 (fun q a b => ru_far hl) (fun M2 hI3 ca cb => ?_)
  refine s_aload_n kx_302_31 rfl ?_
  refine s_aret kx_302_32 kq_302 ⟨M2, rfl, rfl, hI3, fun a b hab => ?_, fun q hq hq2 => ?_⟩
  · rw [cb a b (fun g => hab g.1)]
    exact if_neg hab
  · have hsl := (List.getElem?_eq_some_iff.mp hs).1
    have e0 : (0 : Int).toNat = 0 := rfl
    rw [ca q (by omega) (by omega), e0, Nat.zero_add, Nat.sub_zero]
    exact if_neg (by omega)
def fS_10_m : List (Nat × Nat) := [(19, 1), (19, 2), (21, 99999), (22, 1), (22, 2), (24, 99999), (36, 1), (36, 2), (38, 99999), (39, 1), (39, 2), (41, 99999), (114, 99999)]
/-- a step is added to a formula -/
def Ad (f : Nat) (step : Int) (M M1 : cM) : Prop := (∀ i : Nat, (i : Int) < M f 2 → M1 (M1 f 1).toNat i = M (M f 1).toNat i) ∧ M1 (M1 f 1).toNat (M f 2).toNat = step ∧ ∀ g, fF g → g ≠ f → M1 g 1 = M g 1 ∧ M1 g 2 = M g 2 ∧ ∀ i, M1 (M g 1).toNat i = M (M g 1).toNat i
theorem a_10 {xs : Nat → Int} {Ln d : Nat} {T : List cK} {M : cM} (hT : TT T) (hI : Rng M) {f : Nat} (hf : fF f) (hG : Gm T M) {step : Int} (p0 : M f 2 + 1 ≤ 1600) : cC k_P xs Ln (d + 2) 10 [rf f, (0, step)] (T, M) (qGV T M fS_10_m (fun M1 => M1 f 2 = M f 2 + 1 ∧ Ad f step M M1)) := by
  show cP k_P xs Ln (d + 2) 10 0 [(0, rf f), (1, (0, step))] [] (T, M) _
  have tail : ∀ (T1 : List cK) (M1 : cM), TT T1 → Rng M1 → Fr fS_10_m M M1 → Gm T1 M1 → M1 f 2 = M f 2 → (∀ i : Nat, (i : Int) < M f 2 → M1 (M1 f 1).toNat i = M (M f 1).toNat i) → (∀ g, fF g → g ≠ f → M1 g 1 = M g 1 ∧ M1 g 2 = M g 2 ∧ ∀ i, M1 (M g 1).toNat i = M (M g 1).toNat i) → (∀ s n : Nat, M1 f 1 = ((s : Nat) : Int) → T1[s]? = some (.inl (0, n)) → M f 2 < n) → cP k_P xs Ln (d + 2) 10 32 [(0, rf f), (1, (0, step))] [] (T1, M1) (qGV T M fS_10_m (fun M1 => M1 f 2 = M f 2 + 1 ∧ Ad f step M M1)) := by
    intro T1 M1 hT1 hI1 hF1 hG1 e2 hcc hoo hlt
    obtain ⟨n, h1, h2, h3, h4⟩ := hG1
    obtain ⟨s, a1, a2, a3, a4, a5, a6⟩ := h1 f hf
    have hlt := hlt s (n f) a1 a2
    have hfc := hf.cases
    refine s_aload_n kx_10_32 rfl ?_
    refine r_getR (k := f) (f := 1) (k2 := s) kx_10_33 kp_10_15 (tkf_0 hT1 hf) kf_1_1 (by decide) a1 ?_
    refine s_aload_n kx_10_36 rfl ?_
    refine r_getI (k := f) (f := 2) kx_10_37 kp_10_18 (tkf_0 hT1 hf) kf_1_2 (fun _ => rfl) (rgf_0_2 hI1 hf) (fun v ve va vb => ?_)
    refine s_iload_n kx_10_40 rfl ?_
    have hru : r_ok s v.toNat step := by
      rcases a6 with e | e
      · subst e
        rcases hf with rfl | rfl | rfl | rfl
        · exact ru_21
        · exact ru_24
        · exact ru_38
        · exact ru_41
      · exact ru_far e
    refine r_ast (k := s) kx_10_41 a2 ⟨by omega, by omega⟩ hI1 hru (fun M2 hI2 u2 => ?_)
    have hin : c_in fS_10_m s v.toNat = true := by
      rcases a6 with e | e
      · subst e
        rcases hf with rfl | rfl | rfl | rfl <;> rfl
      · exact c_in_far e rfl
    have hF2 := hF1.up u2 hin
    refine s_aload_n kx_10_42 rfl ?_
    refine s_dup kx_10_43 rfl ?_
    refine r_getK (k := f) (f := 2) kx_10_44 kp_10_18 (tkf_0 hT1 hf) kf_1_2 (fun _ => rfl) ((u2.2 f 2 (by omega)).trans ve) ?_
    refine s_iconst (v := 1) kx_10_47 (by decide) ?_
    refine r_add kx_10_48 ⟨by omega, by omega⟩ ?_
    refine r_put (k := f) (f := 2) kx_10_49 kp_10_18 (tkf_0 hT1 hf) kf_1_2 rfl (by decide) (by decide) hI2 (ruf_0_2 hf (by omega) (by omega)) (fun M3 hI3 u3 => ?_)
    have hF3 := hF2.up u3 (by rcases hf with rfl | rfl | rfl | rfl <;> rfl)
    refine s_vret kx_10_52 kq_10 ⟨T1, M3, rfl, rfl, hT1, hI3, hF3, ⟨n, fun g hg => ?_, h2, h3, fun a b ha hb e => ?_⟩, ?_, ?_, ?_, fun g hg hne => ?_⟩
    · obtain ⟨s', b1, b2, b3, b4, b5, b6⟩ := h1 g hg
      have hgc := hg.cases
      refine ⟨s', ?_, b2, b3, b4, ?_, b6⟩
      · rw [u3.2 g 1 (by omega), u2.2 g 1 (by omega)]
        exact b1
      · by_cases e : g = f
        · subst e
          rw [u3.1]
          omega
        · rw [u3.2 g 2 (by omega), u2.2 g 2 (by omega)]
          exact b5
    · have hac := ha.cases
      have hbc := hb.cases
      rw [u3.2 a 1 (by omega), u2.2 a 1 (by omega), u3.2 b 1 (by omega), u2.2 b 1 (by omega)]
      exact h4 a b ha hb e
    · show M3 f 2 = M f 2 + 1
      rw [u3.1]
      omega
    · intro i hi
      have e1 : M3 f 1 = M1 f 1 := by rw [u3.2 f 1 (by omega), u2.2 f 1 (by omega)]
      have e3 : (M1 f 1).toNat = s := by omega
      rw [e1, e3, u3.2 s i (by omega), u2.2 s i (by omega), ← e3]
      exact hcc i hi
    · have e1 : M3 f 1 = M1 f 1 := by rw [u3.2 f 1 (by omega), u2.2 f 1 (by omega)]
      have e3 : (M1 f 1).toNat = s := by omega
      rw [e1, e3, u3.2 s _ (by omega), show (M f 2).toNat = v.toNat by omega]
      exact u2.1
    · obtain ⟨b1, b2, b3⟩ := hoo g hg hne
      obtain ⟨s', d1, d2, d3, d4, d5, d6⟩ := h1 g hg
      have hgc := hg.cases
      have hd := h4 g f hg hf hne
      refine ⟨?_, ?_, fun i => ?_⟩
      · rw [u3.2 g 1 (by omega), u2.2 g 1 (by omega)]
        exact b1
      · rw [u3.2 g 2 (by omega), u2.2 g 2 (by omega)]
        exact b2
      · rw [u3.2 _ i (by omega), u2.2 _ i (by omega)]
        exact b3 i
  have hG0 := hG
  obtain ⟨n, h1, h2, h3, h4⟩ := hG
  obtain ⟨s, a1, a2, a3, a4, a5, a6⟩ := h1 f hf
  refine s_aload_n kx_10_0 rfl ?_
  refine r_getI (k := f) (f := 2) kx_10_1 kp_10_18 (tkf_0 hT hf) kf_1_2 (fun _ => rfl) (rgf_0_2 hI hf) (fun v ve va vb => ?_)
  refine s_aload_n kx_10_4 rfl ?_
  refine r_getR (k := f) (f := 1) (k2 := s) kx_10_5 kp_10_15 (tkf_0 hT hf) kf_1_1 (by decide) a1 ?_
  refine r_alen (k := s) kx_10_8 a2 ⟨by decide, by omega⟩ ?_
  refine s_icmp_lt (t := 32) kx_10_9 (by decide) (fun hlt => ?_) (fun hge => ?_)
  · refine tail T M hT hI Fr.refl hG0 rfl (fun _ _ => rfl) (fun _ _ _ => ⟨rfl, rfl, fun _ => rfl⟩) (fun s1 n1 b1 b2 => ?_)
    have : s1 = s := by
      have := b1.symm.trans a1
      omega
    subst this
    rw [a2] at b2
    have e := Option.some.inj b2
    have e2 : n f = n1 := by injection e with e; injection e
    omega
  · have hv : v = (n f : Int) := by omega
    refine s_aload_n kx_10_12 rfl ?_
    refine s_aload_n kx_10_13 rfl ?_
    refine r_getR (k := f) (f := 1) (k2 := s) kx_10_14 kp_10_15 (tkf_0 hT hf) kf_1_1 (by decide) a1 ?_
    refine s_aload_n kx_10_17 rfl ?_
    refine r_getK (k := f) (f := 2) kx_10_18 kp_10_18 (tkf_0 hT hf) kf_1_2 (fun _ => rfl) ve ?_
    refine s_aload_n kx_10_21 rfl ?_
    refine r_getK (k := f) (f := 2) kx_10_22 kp_10_18 (tkf_0 hT hf) kf_1_2 (fun _ => rfl) ve ?_
    refine r_add kx_10_25 ⟨by omega, by omega⟩ ?_
    refine s_callS2 (s1 := 2) (s2 := 1) (as := [(0, v + v), rf s]) (rest := [rf f]) kx_10_26 kp_10_22 rfl kcl_302 rfl rfl (by decide) (m_302 (d := d) hT hI a2 (by omega) ⟨by omega, by omega⟩ (by omega)) ?_
    rintro r1 h1' ⟨M1, rfl, rfl, hI1, hM1, hC1⟩
    show cP k_P xs Ln (d + 2) 10 29 [(0, rf f), (1, (0, step))] [rf T.length, rf f] _ _
    have hl := hT.len
    have hfc := hf.cases
    have hT1 := hT.snoc (.inl (0, (v + v).toNat))
    refine r_put (k := f) (f := 1) kx_10_29 kp_10_15 (tkf_0 hT1 hf) kf_1_1 rfl (by decide) (by decide) hI1 (ruf_0_1 hf) (fun M2 hI2 u2 => ?_)
    have hF2 : Fr fS_10_m M M2 := by
      have g1 : Fr fS_10_m M M1 := by
        intro a b g
        refine hM1 a b ?_
        rintro rfl
        rw [c_in_far hl rfl] at g
        cases g
      exact g1.up u2 (by rcases hf with rfl | rfl | rfl | rfl <;> rfl)
    have hlast : (T ++ [(.inl (0, (v + v).toNat) : cK)])[T.length]? = some (.inl (0, (v + v).toNat)) := by
      rw [List.getElem?_append_right (Nat.le_refl _), Nat.sub_self]
      rfl
    refine tail _ M2 hT1 hI2 hF2 ?_ ?_ (fun i hi => ?_) (fun g hg hne => ?_) ?_
    · refine ⟨fun g => if g = f then 2 * n f else n g, fun g hg => ?_, ?_, ?_, fun a b ha hb e => ?_⟩
      · obtain ⟨s', b1, b2, b3, b4, b5, b6⟩ := h1 g hg
        have hgc := hg.cases
        dsimp only
        by_cases e : g = f
        · subst e
          refine ⟨T.length, u2.1, ?_, ?_, ?_, ?_, Or.inr hl⟩
          · rw [hlast, if_pos rfl, show (v + v).toNat = 2 * n g by omega]
          · rw [if_pos rfl]
            omega
          · rw [if_pos rfl]
            omega
          · rw [if_pos rfl, u2.2 g 2 (by omega), hM1 g 2 (by omega)]
            omega
        · refine ⟨s', ?_, ?_, ?_, ?_, ?_, b6⟩
          · rw [u2.2 g 1 (by omega), hM1 g 1 (by omega)]
            exact b1
          · rw [if_neg e, List.getElem?_append_left (List.getElem?_eq_some_iff.mp b2).1]
            exact b2
          · rw [if_neg e]
            exact b3
          · rw [if_neg e]
            exact b4
          · rw [if_neg e, u2.2 g 2 (by omega), hM1 g 2 (by omega)]
            exact b5
      · dsimp only
        rw [List.length_append, List.length_singleton]
        rcases hf with rfl | rfl | rfl | rfl <;> simp <;> omega
      · have ec : c_sz k_P (T ++ [(.inl (0, (v + v).toNat) : cK)]) = c_sz k_P T + (v + v).toNat := c_sz_app
        dsimp only
        rw [ec]
        rcases hf with rfl | rfl | rfl | rfl <;> simp <;> omega
      · have hac := ha.cases
        have hbc := hb.cases
        obtain ⟨sa, d1, d2, _⟩ := h1 a ha
        obtain ⟨sb, q1, q2, _⟩ := h1 b hb
        have l1 := (List.getElem?_eq_some_iff.mp d2).1
        have l2 := (List.getElem?_eq_some_iff.mp q2).1
        by_cases ea : a = f
        · subst ea
          rw [u2.1, u2.2 b 1 (by omega), hM1 b 1 (by omega)]
          omega
        · rw [u2.2 a 1 (by omega), hM1 a 1 (by omega)]
          by_cases eb : b = f
          · subst eb
            rw [u2.1]
            omega
          · rw [u2.2 b 1 (by omega), hM1 b 1 (by omega)]
            exact h4 a b ha hb e
    · rw [u2.2 f 2 (by omega), hM1 f 2 (by omega)]
    · have e1 : (M2 f 1).toNat = T.length := by rw [u2.1]; omega
      have e3 : (M f 1).toNat = s := by omega
      rw [e1, u2.2 _ i (by omega), hC1 i (by omega) (by omega), e3]
    · obtain ⟨s', d1, d2, d3, d4, d5, d6⟩ := h1 g hg
      have hgc := hg.cases
      have l1 := (List.getElem?_eq_some_iff.mp d2).1
      refine ⟨?_, ?_, fun i => ?_⟩
      · rw [u2.2 g 1 (by omega), hM1 g 1 (by omega)]
      · rw [u2.2 g 2 (by omega), hM1 g 2 (by omega)]
      · rw [u2.2 _ i (by omega), hM1 _ i (by omega)]
    · intro s1 n1 b1 b2
      have : s1 = T.length := by
        have := b1.symm.trans u2.1
        omega
      subst this
      rw [hlast] at b2
      have e := Option.some.inj b2
      have e2 : (v + v).toNat = n1 := by injection e with e; injection e
      omega
theorem m_10 {xs : Nat → Int} {Ln d : Nat} {T : List cK} {M : cM} (hT : TT T) (hI : Rng M) {f : Nat} (hf : fF f) (hG : Gm T M) {step : Int} (p0 : M f 2 + 1 ≤ 1600) : cC k_P xs Ln (d + 2) 10 [rf f, (0, step)] (T, M) (qGV T M fS_10_m (fun M1 => M1 f 2 = M f 2 + 1)) :=
  cP.mono (a_10 hT hI hf hG p0) (Nat.le_refl _) (fun _ _ ⟨T1, M1, c1, c2, c3, c4, c5, c6, c7⟩ => ⟨T1, M1, c1, c2, c3, c4, c5, c6, c7.1⟩)
