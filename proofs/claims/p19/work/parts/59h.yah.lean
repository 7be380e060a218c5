theorem lyW1 {x b e : Int} {ad cp : Prop} {w : Int} {u : Nat → Int} (h : LxT x ad b e 6) (hn : ¬ cp) (hw : e - b ≤ 6 → w = owP8 u (e - b).toNat) : (ad ∧ x = b) ∨ (¬ ad ∧ cp ∧ x = -1 ∧ w = 1) ∨ (¬ ad ∧ ¬ cp ∧ 6 < e - b ∧ x = b + 6) ∨ (¬ ad ∧ e - b ≤ 6 ∧ x = -1 ∧ w = owP8 u (e - b).toNat) := by
  rcases h with h | ⟨h1, h2 | h2⟩
  · exact Or.inl h
  · exact Or.inr (Or.inr (Or.inl ⟨h1, hn, h2⟩))
  · exact Or.inr (Or.inr (Or.inr ⟨h1, h2.1, h2.2, hw h2.1⟩))
theorem lyD1 {x b e : Int} {ad : Prop} {w : Int} {u : Nat → Int} (h : LxT x ad b e 4) (hw : e - b ≤ 4 → w = owPn u (e - b).toNat) : (ad ∧ x = b) ∨ (¬ ad ∧ 4 < e - b ∧ x = b + 4) ∨ (¬ ad ∧ e - b ≤ 4 ∧ x = -1 ∧ w = owPn u (e - b).toNat) := by
  rcases h with h | ⟨h1, h2 | h2⟩
  · exact Or.inl h
  · exact Or.inr (Or.inl ⟨h1, h2⟩)
  · exact Or.inr (Or.inr ⟨h1, h2.1, h2.2, hw h2.1⟩)
theorem LxT.na {x b e m : Int} {ad : Prop} (h : LxT x ad b e m) (hm : 0 < m) (hx : x = b + m) : ¬ ad := by
  rcases h with h | ⟨h1, h2⟩
  · omega
  · exact h1
theorem LxT.ad {x b e m : Int} {ad : Prop} (h : LxT x ad b e m) (he : m < e - b) (hx : x ≠ b + m) : ad ∧ x = b := by
  rcases h with h | ⟨h1, h2⟩
  · exact h
  · omega
theorem LxT.begin {x b m : Int} {ad : Prop} (h : (ad ∧ x = b) ∨ (¬ ad ∧ x = -1)) (hm : 0 ≤ m) : LxT x ad b b m := by
  rcases h with h | h
  · exact Or.inl h
  · exact Or.inr ⟨h.1, Or.inr ⟨by omega, h.2⟩⟩
theorem VaT.step {x y c : Int} {u : Nat → Int} {k : Int} (h : VaT x u k) (h0 : 0 ≤ k) (hy : (k < 4 ∧ y = 10 * x + u k.toNat - 48) ∨ (4 ≤ k ∧ y = x)) : VaT y u (k + 1) := by
  rcases hy with ⟨h1, h2⟩ | ⟨h1, h2⟩
  · have hx := h.1 (by omega)
    have e : y = owPn u (k + 1).toNat := by
      rw [h2, hx, show (k + 1).toNat = k.toNat + 1 by omega]
      show _ = 10 * owPn u k.toNat + (u k.toNat - 48)
      omega
    refine ⟨fun _ => e, fun g => ?_⟩
    rw [e, show (k + 1).toNat = 4 by omega]
  · refine ⟨fun g => by omega, fun _ => ?_⟩
    rw [h2]
    exact h.2 h1
theorem WdT.rng {x : Int} {u : Nat → Int} {k : Int} (h : WdT x u k) (h0 : 0 ≤ k) (hu : ∀ i : Nat, (i : Int) < k → 97 ≤ u i ∧ u i ≤ 122) : 0 ≤ x ∧ x ≤ 9223372036854775807 := by
  by_cases h8 : 8 ≤ k
  · rw [h.2 h8]
    have a0 := hu 0 (by omega)
    have a1 := hu 1 (by omega)
    have a2 := hu 2 (by omega)
    have a3 := hu 3 (by omega)
    have a4 := hu 4 (by omega)
    have a5 := hu 5 (by omega)
    have a6 := hu 6 (by omega)
    have a7 := hu 7 (by omega)
    simp only [owP8]
    omega
  · rw [h.1 (by omega)]
    have hr := owP8_rng (u := u) k.toNat (fun i hi => by have := hu i (by omega); omega)
    have hp : (256 : Int) ^ k.toNat ≤ 256 ^ 7 := by
      have := Int.ofNat_le.mpr (Nat.pow_le_pow_right (show 0 < 256 by decide) (show k.toNat ≤ 7 by omega))
      rw [Int.natCast_pow, Int.natCast_pow] at this
      exact this
    have h7 : (256 : Int) ^ 7 = 72057594037927936 := by decide
    omega
theorem WdT.no {x : Int} {u : Nat → Int} {k : Int} (h : WdT x u k) (h7 : 7 ≤ k) (h8 : k ≤ 8) (hu : ∀ i : Nat, (i : Int) < k → 97 ≤ u i ∧ u i ≤ 122) : ¬ isO8 x := by
  have hl : 97 * 256 ^ 6 ≤ x := by
    have hk : k = 7 ∨ k = 8 := by omega
    rcases hk with rfl | rfl
    · rw [h.1 (by decide)]
      exact owP8_lo 6 (fun i hi => hu i (by omega))
    · rw [h.1 (by decide)]
      have h9 : 97 * 256 ^ 7 ≤ owP8 u 8 := owP8_lo (u := u) 7 (fun i hi => hu i (by omega))
      show _ ≤ owP8 u 8
      omega
  unfold isO8
  omega
def gS_180_j247 : List (Nat × Nat) := [(63, 13)]
def gS_180_j267 : List (Nat × Nat) := [(63, 7)]
def gS_180_j297 : List (Nat × Nat) := [(63, 8)]
def gS_180_j314 : List (Nat × Nat) := [(63, 6)]
def gS_180_j99 : List (Nat × Nat) := [(63, 13)]
def gS_180_l204 : List (Nat × Nat) := [(63, 13), (63, 6), (63, 7), (63, 8)]
def gS_180_m : List (Nat × Nat) := [(63, 13), (63, 3), (63, 4), (63, 5), (63, 6), (63, 7), (63, 8)]
def gS_180_l5 : List (Nat × Nat) := []
set_option maxHeartbeats 4000000 in
theorem f_180 {xs : Nat → Int} {Ln d : Nat} {T : List cK} {M : cM} (hT : TT T) (hI : Rng M) {s : Nat → Int} {n p : Int} (hs : M 64 = s) (h2 : M 63 2 = n) (h5 : M 63 5 = p) (h0 : 0 ≤ p) (hpn : p ≤ n) (h10 : M 63 10 = -1) : cC k_P xs Ln (d + 1) 180 [rf 63] (T, M) (qV T M gS_180_m (fun M1 => LyA M1 s n p ∧ M 63 5 ≤ M1 63 4 ∧ M1 63 4 ≤ M1 63 5 ∧ (M1 63 3 = 0 ∨ M1 63 4 + 1 ≤ M1 63 5))) := by
  show cP k_P xs Ln (d + 1) 180 0 [(0, rf 63)] [] (T, M) _
  have hFm : Fr gS_180_m M M := Fr.refl
  have hn0 := rg_63_2 hI
  have h639 := rg_63_9 hI
  refine s_aload_n kx_180_0 rfl ?_
  refine r_getI (k := 63) (f := 5) kx_180_1 kp_180_26 (tk_63 hT) kf_12_5 (fun _ => rfl) (rg_63_5 hI) (fun v1 v1e v1a v1b => ?_)
  refine s_istore_n kx_180_4 km_180_1 rfl ?_
  have key3 : ∀ n4 : Nat, ∀ (x1_2 : Int), (0 ≤ x1_2) → (x1_2 ≤ 1600) → (p ≤ x1_2) → (owB s n x1_2 = owB s n p) → (2147483647 - x1_2).toNat < n4 → cP k_P xs Ln (d + 1) 180 5 [(0, rf 63), (1, (0, x1_2))] [] (T, M) (qV T M gS_180_m (fun M1 => LyA M1 s n p ∧ M 63 5 ≤ M1 63 4 ∧ M1 63 4 ≤ M1 63 5 ∧ (M1 63 3 = 0 ∨ M1 63 4 + 1 ≤ M1 63 5))) := by
    intro n4
    induction n4 with
    | zero => intro x1_2 i5 i6 i7 i8 hm9; exact absurd hm9 (Nat.not_lt_zero _)
    | succ n4 ih10 =>
      intro x1_2 i5 i6 i7 i8 hm9
      refine s_iload_n kx_180_5 rfl ?_
      refine s_aload_n kx_180_6 rfl ?_
      refine r_getI (k := 63) (f := 2) kx_180_7 kp_180_17 (tk_63 hT) kf_12_2 (fun _ => rfl) (rg_63_2 hI) (fun v11 v11e v11a v11b => ?_)
      refine s_icmp_ge (t := 41) kx_180_10 (by decide) (fun hc12 => ?_) (fun hc12 => ?_)
      · have hB : x1_2 = owB s n p := owB_stop i8 (by omega)
        have hB0 : 0 ≤ x1_2 := by omega
        refine s_aload_n kx_180_41 rfl ?_
        refine s_iload_n kx_180_42 rfl ?_
        refine r_put (k := 63) (f := 4) kx_180_43 kp_180_23 (tk_63 hT) kf_12_4 rfl (by decide) (by decide) hI (ru_63_4 (by omega) (by omega)) (fun M13 hI13 u13 => ?_)
        have hFm13 := hFm.up u13 rfl
        refine s_aload_n kx_180_46 rfl ?_
        refine s_iload_n kx_180_47 rfl ?_
        refine r_put (k := 63) (f := 5) kx_180_48 kp_180_26 (tk_63 hT) kf_12_5 rfl (by decide) (by decide) hI13 (ru_63_5 (by omega) (by omega)) (fun M14 hI14 u14 => ?_)
        have hFm14 := hFm13.up u14 rfl
        refine s_aload_n kx_180_51 rfl ?_
        refine s_iconst (v := 0) kx_180_52 (by decide) ?_
        refine r_put (k := 63) (f := 3) kx_180_53 kp_180_20 (tk_63 hT) kf_12_3 rfl (by decide) (by decide) hI14 (ru_63_3 (by omega) (by omega)) (fun M15 hI15 u15 => ?_)
        have hFm15 := hFm14.up u15 rfl
        refine s_aload_n kx_180_56 rfl ?_
        refine s_iconst (v := (-1)) kx_180_57 (by decide) ?_
        refine r_put (k := 63) (f := 13) kx_180_58 kp_180_51 (tk_63 hT) kf_12_13 rfl (by decide) (by decide) hI15 (ru_63_13 (by omega) (by omega)) (fun M16 hI16 u16 => ?_)
        have hFm16 := hFm15.up u16 rfl
        refine s_iload_n kx_180_61 rfl ?_
        refine s_aload_n kx_180_62 rfl ?_
        refine r_getK (k := 63) (f := 2) kx_180_63 kp_180_17 (tk_63 hT) kf_12_2 (fun _ => rfl) ((u16.2 63 2 (by omega)).trans ((u15.2 63 2 (by omega)).trans ((u14.2 63 2 (by omega)).trans ((u13.2 63 2 (by omega)).trans v11e)))) ?_
        refine s_icmp_lt (t := 70) kx_180_66 (by decide) (fun hc17 => ?_) (fun hc17 => ?_)
        · exact absurd hB0 (by omega)
        · have hk18 : M16 63 4 = x1_2 := ((u16.2 63 4 (by omega)).trans ((u15.2 63 4 (by omega)).trans ((u14.2 63 4 (by omega)).trans u13.1)))
          have hk19 : M16 63 5 = x1_2 := ((u16.2 63 5 (by omega)).trans ((u15.2 63 5 (by omega)).trans u14.1))
          have hk20 : M16 63 13 = (-1) := u16.1
          have hk21 : M16 63 3 = 0 := ((u16.2 63 3 (by omega)).trans u15.1)
          exact s_vret kx_180_69 kq_180 ⟨_, rfl, rfl, hI16, hFm16, ⟨LyA.eE ((((u16.2 63 10 (by omega)).trans ((u15.2 63 10 (by omega)).trans ((u14.2 63 10 (by omega)).trans (u13.2 63 10 (by omega)))))).trans h10) ((funext fun i => ((u16.2 64 i (by omega)).trans ((u15.2 64 i (by omega)).trans ((u14.2 64 i (by omega)).trans (u13.2 64 i (by omega)))))).trans hs) ((((u16.2 63 2 (by omega)).trans ((u15.2 63 2 (by omega)).trans ((u14.2 63 2 (by omega)).trans (u13.2 63 2 (by omega)))))).trans h2) h0 hpn (by omega) (by omega) (by omega) ((u16.2 63 3 (by omega)).trans u15.1) u16.1, by omega, by omega, by omega⟩⟩
      · refine s_aload_n kx_180_13 rfl ?_
        refine r_getR (k := 63) (f := 0) (k2 := 64) kx_180_14 kp_180_7 (tk_63 hT) kf_12_0 (by decide) (rq_63_0 hI) ?_
        refine s_iload_n kx_180_17 rfl ?_
        refine r_ald (k := 64) kx_180_18 (tk_64 hT) ⟨by omega, by omega⟩ (rg_64 hI) (fun v22 v22e v22a v22b => ?_)
        have v22s : s (x1_2).toNat = v22 := (congrFun hs (x1_2).toNat).symm.trans v22e
        refine s_bipush (v := 32) kx_180_19 (by decide) ?_
        refine s_icmp_eq (t := 35) kx_180_21 (by decide) (fun hc23 => ?_) (fun hc23 => ?_)
        · refine r_iinc kx_180_35 rfl km_180_1 (by decide) ⟨by omega, by omega⟩ rfl ?_
          refine s_goto (t := 5) kx_180_38 (by decide) ?_
          exact cP.wk (lS1 rfl (lS1 rfl lS0)) (ih10 (x1_2 + 1) (by omega) (by omega) (by omega) (owB_step i8 (by omega) (by omega)).1 (by omega))
        · refine s_aload_n kx_180_24 rfl ?_
          refine r_getR (k := 63) (f := 0) (k2 := 64) kx_180_25 kp_180_7 (tk_63 hT) kf_12_0 (by decide) (rq_63_0 hI) ?_
          refine s_iload_n kx_180_28 rfl ?_
          refine r_aldK (k := 64) kx_180_29 (tk_64 hT) ⟨by omega, by omega⟩ v22e ?_
          refine s_bipush (v := 10) kx_180_30 (by decide) ?_
          refine s_icmp_ne (t := 41) kx_180_32 (by decide) (fun hc24 => ?_) (fun hc24 => ?_)
          · have hB : x1_2 = owB s n p := owB_stop i8 (by omega)
            have hB0 : 0 ≤ x1_2 := by omega
            refine s_aload_n kx_180_41 rfl ?_
            refine s_iload_n kx_180_42 rfl ?_
            refine r_put (k := 63) (f := 4) kx_180_43 kp_180_23 (tk_63 hT) kf_12_4 rfl (by decide) (by decide) hI (ru_63_4 (by omega) (by omega)) (fun M25 hI25 u25 => ?_)
            have hFm25 := hFm.up u25 rfl
            refine s_aload_n kx_180_46 rfl ?_
            refine s_iload_n kx_180_47 rfl ?_
            refine r_put (k := 63) (f := 5) kx_180_48 kp_180_26 (tk_63 hT) kf_12_5 rfl (by decide) (by decide) hI25 (ru_63_5 (by omega) (by omega)) (fun M26 hI26 u26 => ?_)
            have hFm26 := hFm25.up u26 rfl
            refine s_aload_n kx_180_51 rfl ?_
            refine s_iconst (v := 0) kx_180_52 (by decide) ?_
            refine r_put (k := 63) (f := 3) kx_180_53 kp_180_20 (tk_63 hT) kf_12_3 rfl (by decide) (by decide) hI26 (ru_63_3 (by omega) (by omega)) (fun M27 hI27 u27 => ?_)
            have hFm27 := hFm26.up u27 rfl
            refine s_aload_n kx_180_56 rfl ?_
            refine s_iconst (v := (-1)) kx_180_57 (by decide) ?_
            refine r_put (k := 63) (f := 13) kx_180_58 kp_180_51 (tk_63 hT) kf_12_13 rfl (by decide) (by decide) hI27 (ru_63_13 (by omega) (by omega)) (fun M28 hI28 u28 => ?_)
            have hFm28 := hFm27.up u28 rfl
            refine s_iload_n kx_180_61 rfl ?_
            refine s_aload_n kx_180_62 rfl ?_
            refine r_getK (k := 63) (f := 2) kx_180_63 kp_180_17 (tk_63 hT) kf_12_2 (fun _ => rfl) ((u28.2 63 2 (by omega)).trans ((u27.2 63 2 (by omega)).trans ((u26.2 63 2 (by omega)).trans ((u25.2 63 2 (by omega)).trans v11e)))) ?_
            refine s_icmp_lt (t := 70) kx_180_66 (by decide) (fun hc29 => ?_) (fun hc29 => ?_)
            · refine s_aload_n kx_180_70 rfl ?_
              refine r_getR (k := 63) (f := 0) (k2 := 64) kx_180_71 kp_180_7 (tk_63 hT) kf_12_0 (by decide) (rq_63_0 hI28) ?_
              refine s_iload_n kx_180_74 rfl ?_
              refine r_aldK (k := 64) kx_180_75 (tk_64 hT) ⟨by omega, by omega⟩ ((u28.2 64 _ (by omega)).trans ((u27.2 64 _ (by omega)).trans ((u26.2 64 _ (by omega)).trans ((u25.2 64 _ (by omega)).trans v22e)))) ?_
              refine s_callS2 (s1 := 1) (s2 := 0) (as := [(0, v22)]) (rest := []) kx_180_76 kp_180_267 rfl kcl_177 rfl rfl (by decide) (m_177 (d := d) (c := v22) hT hI28) (kF (fun v30 v30p => ?_))
              refine s_istore_n kx_180_79 km_180_2 rfl ?_
              refine s_aload_n kx_180_80 rfl ?_
              refine r_getR (k := 63) (f := 0) (k2 := 64) kx_180_81 kp_180_7 (tk_63 hT) kf_12_0 (by decide) (rq_63_0 hI28) ?_
              refine s_iload_n kx_180_84 rfl ?_
              refine r_aldK (k := 64) kx_180_85 (tk_64 hT) ⟨by omega, by omega⟩ ((u28.2 64 _ (by omega)).trans ((u27.2 64 _ (by omega)).trans ((u26.2 64 _ (by omega)).trans ((u25.2 64 _ (by omega)).trans v22e)))) ?_
              refine s_callS2 (s1 := 1) (s2 := 0) (as := [(0, v22)]) (rest := []) kx_180_86 kp_180_271 rfl kcl_178 rfl rfl (by decide) (m_178 (d := d) (c := v22) hT hI28) (kF (fun v31 v31p => ?_))
              refine s_istore_n kx_180_89 km_180_3 rfl ?_
              refine s_iload_n kx_180_90 rfl ?_
              refine s_if_ne (t := 98) kx_180_91 (by decide) (fun hc32 => ?_) (fun hc32 => ?_)
              · replace v30p := v30p.resolve_right (by omega)
                have h30 : v31 = 0 := by omega
                refine s_iload_n kx_180_98 rfl ?_
                have jn43 : ∀ M44 : cM, Rng M44 → Fr gS_180_j99 M28 M44 → Fr gS_180_m M M44 → ((owAd s x1_2 ∧ M44 63 13 = x1_2) ∨ (¬ owAd s x1_2 ∧ M44 63 13 = -1)) → cP k_P xs Ln (d + 1) 180 135 [(0, rf 63), (1, (0, x1_2)), (2, (0, v30)), (3, (0, v31))] [] (T, M44) (qV T M gS_180_m (fun M1 => LyA M1 s n p ∧ M 63 5 ≤ M1 63 4 ∧ M1 63 4 ≤ M1 63 5 ∧ (M1 63 3 = 0 ∨ M1 63 4 + 1 ≤ M1 63 5))) := by
                  intro M44 hI44 fj44 hFm44 a45
                  refine s_aload_n kx_180_135 rfl ?_
                  refine s_iconst (v := 0) kx_180_136 (by decide) ?_
                  refine r_put (k := 63) (f := 6) kx_180_137 kp_180_29 (tk_63 hT) kf_12_6 rfl (by decide) (by decide) hI44 ru_63_6 (fun M46 hI46 u46 => ?_)
                  have hFm46 := hFm44.up u46 rfl
                  refine s_aload_n kx_180_140 rfl ?_
                  refine s_lconst (v := 0) kx_180_141 (by decide) ?_
                  refine r_put (k := 63) (f := 7) kx_180_142 kp_180_32 (tk_63 hT) kf_12_7 rfl (by decide) (by decide) hI46 ru_63_7 (fun M47 hI47 u47 => ?_)
                  have hFm47 := hFm46.up u47 rfl
                  refine s_aload_n kx_180_145 rfl ?_
                  refine s_iconst (v := 3) kx_180_146 (by decide) ?_
                  refine r_put (k := 63) (f := 3) kx_180_147 kp_180_20 (tk_63 hT) kf_12_3 rfl (by decide) (by decide) hI47 (ru_63_3 (by omega) (by omega)) (fun M48 hI48 u48 => ?_)
                  have hFm48 := hFm47.up u48 rfl
                  refine s_aload_n kx_180_150 rfl ?_
                  refine s_iload_n kx_180_151 rfl ?_
                  refine s_iconst (v := 1) kx_180_152 (by decide) ?_
                  refine r_add kx_180_153 ⟨by omega, by omega⟩ ?_
                  refine r_put (k := 63) (f := 5) kx_180_154 kp_180_26 (tk_63 hT) kf_12_5 rfl (by decide) (by decide) hI48 (ru_63_5 (by omega) (by omega)) (fun M49 hI49 u49 => ?_)
                  have hFm49 := hFm48.up u49 rfl
                  refine s_iload_n kx_180_157 rfl ?_
                  refine s_if_ne (t := 176) kx_180_158 (by decide) (fun hc50 => ?_) (fun hc50 => absurd hc50 (by omega))
                  refine s_aload_n kx_180_176 rfl ?_
                  refine s_iload_n kx_180_177 rfl ?_
                  refine s_if_eq (t := 185) kx_180_178 (by decide) (fun hc51 => absurd hc51 (by omega)) (fun hc51 => ?_)
                  refine s_iconst (v := 1) kx_180_181 (by decide) ?_
                  refine s_goto (t := 186) kx_180_182 (by decide) ?_
                  have hcb : s (owB s n p).toNat = v22 := by rw [← hB]; exact v22s
                  refine r_put (k := 63) (f := 3) kx_180_186 kp_180_20 (tk_63 hT) kf_12_3 rfl (by decide) (by decide) hI49 (ru_63_3 (by omega) (by omega)) (fun M52 hI52 u52 => ?_)
                  have hFm52 := hFm49.up u52 rfl
                  refine s_iload_n kx_180_189 rfl ?_
                  refine s_if_eq (t := 198) kx_180_190 (by decide) (fun hc53 => absurd hc53 (by omega)) (fun hc53 => ?_)
                  refine s_bipush (v := 6) kx_180_193 (by decide) ?_
                  refine s_goto (t := 199) kx_180_195 (by decide) ?_
                  refine s_istore kx_180_199 km_180_4 rfl ?_
                  refine s_iconst (v := 0) kx_180_201 (by decide) ?_
                  refine s_istore kx_180_202 km_180_5 rfl ?_
                  have key57 : ∀ n58 : Nat, ∀ (x1_54 x5_55 : Int), ∀ M56 : cM, Rng M56 → Fr gS_180_m M M56 → Fr gS_180_l204 M52 M56 → (0 ≤ x1_54) → (x1_54 ≤ 1600) → (0 ≤ x5_55) → (x5_55 ≤ 1600) → (x1_2 ≤ x1_54) → (x5_55 = x1_54 - x1_2) → (x1_54 ≤ n) → (owEw s n x1_54 = owEw s n x1_2) → (LxT (M56 63 13) (owAd s x1_2) x1_2 x1_54 6) → (WdT (M56 63 7) (owS s x1_2) (x1_54 - x1_2)) → (NiT (M56 63 8) (owS s x1_2) (x1_54 - x1_2)) → (2147483647 - x5_55).toNat < n58 → cP k_P xs Ln (d + 1) 180 204 [(0, rf 63), (1, (0, x1_54)), (2, (0, v30)), (3, (0, v31)), (4, (0, 6)), (5, (0, x5_55))] [] (T, M56) (qV T M gS_180_m (fun M1 => LyA M1 s n p ∧ M 63 5 ≤ M1 63 4 ∧ M1 63 4 ≤ M1 63 5 ∧ (M1 63 3 = 0 ∨ M1 63 4 + 1 ≤ M1 63 5))) := by
                    intro n58
                    induction n58 with
                    | zero => intro x1_54 x5_55 M56 hI56 hFm56 fl56 i59 i60 i61 i62 i63 i64 i65 i66 i67 i68 i69 hm70; exact absurd hm70 (Nat.not_lt_zero _)
                    | succ n58 ih71 =>
                      intro x1_54 x5_55 M56 hI56 hFm56 fl56 i59 i60 i61 i62 i63 i64 i65 i66 i67 i68 i69 hm70
                      refine s_iload_n kx_180_204 rfl ?_
                      refine s_aload_n kx_180_205 rfl ?_
                      refine r_getK (k := 63) (f := 2) kx_180_206 kp_180_17 (tk_63 hT) kf_12_2 (fun _ => rfl) ((fl56 63 2 rfl).trans ((u52.2 63 2 (by omega)).trans ((u49.2 63 2 (by omega)).trans ((u48.2 63 2 (by omega)).trans ((u47.2 63 2 (by omega)).trans ((u46.2 63 2 (by omega)).trans ((fj44 63 2 rfl).trans ((u28.2 63 2 (by omega)).trans ((u27.2 63 2 (by omega)).trans ((u26.2 63 2 (by omega)).trans ((u25.2 63 2 (by omega)).trans v11e))))))))))) ?_
                      refine s_icmp_ge (t := 351) kx_180_209 (by decide) (fun hc72 => ?_) (fun hc72 => ?_)
                      · have hE : owEw s n x1_2 = x1_54 := owEw_stop i66 (Or.inl (by omega))
                        have hei := owEw_in (s := s) (n := n) (b := x1_2) (by omega) (by rw [hB, hcb]; exact ⟨by omega, by omega⟩)
                        have hLX := i67
                        have hWD := i68
                        have hNI := i69
                        have hLl : ∀ i : Nat, (i : Int) < x1_54 - x1_2 → 97 ≤ owS s x1_2 i ∧ owS s x1_2 i ≤ 122 := fun i hi => owS_lt (n := n) (q := x1_54) (by omega) i (by omega)
                        have hwr := WdT.rng hWD (by omega) hLl
                        refine s_aload_n kx_180_351 rfl ?_
                        refine s_iload_n kx_180_352 rfl ?_
                        refine r_put (k := 63) (f := 5) kx_180_353 kp_180_26 (tk_63 hT) kf_12_5 rfl (by decide) (by decide) hI56 (ru_63_5 (by omega) (by omega)) (fun M73 hI73 u73 => ?_)
                        have hFm73 := hFm56.up u73 rfl
                        refine s_iload_n kx_180_356 rfl ?_
                        refine s_if_eq (t := 411) kx_180_357 (by decide) (fun hc74 => absurd hc74 (by omega)) (fun hc74 => ?_)
                        refine s_iload kx_180_360 rfl ?_
                        refine s_bipush (v := 9) kx_180_362 (by decide) ?_
                        refine s_icmp_ne (t := 411) kx_180_364 (by decide) (fun hc75 => ?_) (fun hc75 => ?_)
                        · have hnc : ¬ owCp s n x1_2 := fun g => by have g1 := g.1; first | omega | (have hL9 : ∀ i : Nat, i < 9 → 97 ≤ owS s x1_2 i ∧ owS s x1_2 i ≤ 122 := (fun i hi => hLl i (by omega)); have g2 := (carp_iff hL9).mpr g.2; have g3 := hWD.2 (by omega); have g4 := hNI (by omega); omega)
                          refine s_iload_n kx_180_411 rfl ?_
                          refine s_if_eq (t := 452) kx_180_412 (by decide) (fun hc76 => absurd hc76 (by omega)) (fun hc76 => ?_)
                          refine s_iload kx_180_415 rfl ?_
                          refine s_bipush (v := 8) kx_180_417 (by decide) ?_
                          refine s_icmp_gt (t := 452) kx_180_419 (by decide) (fun hc77 => ?_) (fun hc77 => ?_)
                          · have hk78 : M73 63 4 = x1_2 := ((u73.2 63 4 (by omega)).trans ((fl56 63 4 rfl).trans ((u52.2 63 4 (by omega)).trans ((u49.2 63 4 (by omega)).trans ((u48.2 63 4 (by omega)).trans ((u47.2 63 4 (by omega)).trans ((u46.2 63 4 (by omega)).trans ((fj44 63 4 rfl).trans ((u28.2 63 4 (by omega)).trans ((u27.2 63 4 (by omega)).trans ((u26.2 63 4 (by omega)).trans u25.1)))))))))))
                            have hk79 : M73 63 5 = x1_54 := u73.1
                            have hk80 : M73 63 3 = 1 := ((u73.2 63 3 (by omega)).trans ((fl56 63 3 rfl).trans u52.1))
                            exact s_vret kx_180_452 kq_180 ⟨_, rfl, rfl, hI73, hFm73, ⟨LyA.eW ((((u73.2 63 10 (by omega)).trans ((fl56 63 10 rfl).trans ((u52.2 63 10 (by omega)).trans ((u49.2 63 10 (by omega)).trans ((u48.2 63 10 (by omega)).trans ((u47.2 63 10 (by omega)).trans ((u46.2 63 10 (by omega)).trans ((fj44 63 10 rfl).trans ((u28.2 63 10 (by omega)).trans ((u27.2 63 10 (by omega)).trans ((u26.2 63 10 (by omega)).trans (u25.2 63 10 (by omega)))))))))))))).trans h10) ((funext fun i => ((u73.2 64 i (by omega)).trans ((fl56 64 i rfl).trans ((u52.2 64 i (by omega)).trans ((u49.2 64 i (by omega)).trans ((u48.2 64 i (by omega)).trans ((u47.2 64 i (by omega)).trans ((u46.2 64 i (by omega)).trans ((fj44 64 i rfl).trans ((u28.2 64 i (by omega)).trans ((u27.2 64 i (by omega)).trans ((u26.2 64 i (by omega)).trans (u25.2 64 i (by omega)))))))))))))).trans hs) ((((u73.2 63 2 (by omega)).trans ((fl56 63 2 rfl).trans ((u52.2 63 2 (by omega)).trans ((u49.2 63 2 (by omega)).trans ((u48.2 63 2 (by omega)).trans ((u47.2 63 2 (by omega)).trans ((u46.2 63 2 (by omega)).trans ((fj44 63 2 rfl).trans ((u28.2 63 2 (by omega)).trans ((u27.2 63 2 (by omega)).trans ((u26.2 63 2 (by omega)).trans (u25.2 63 2 (by omega)))))))))))))).trans h2) h0 hpn (by omega) (by rw [← hB, hE]; exact u73.1) (by omega) (by rw [hcb]; exact ⟨by omega, by omega⟩) (by omega) (by rw [← hB, (u73.2 63 13 (by omega)), (u73.2 63 7 (by omega)), hE]; exact lyW1 hLX hnc (fun g => hWD.1 (by omega))), by omega, by omega, by omega⟩⟩
                          · refine s_aload_n kx_180_422 rfl ?_
                            refine r_getI (k := 63) (f := 13) kx_180_423 kp_180_51 (tk_63 hT) kf_12_13 (fun _ => rfl) (rg_63_13 hI73) (fun v81 v81e v81a v81b => ?_)
                            refine s_aload_n kx_180_426 rfl ?_
                            refine r_getK (k := 63) (f := 4) kx_180_427 kp_180_23 (tk_63 hT) kf_12_4 (fun _ => rfl) ((u73.2 63 4 (by omega)).trans ((fl56 63 4 rfl).trans ((u52.2 63 4 (by omega)).trans ((u49.2 63 4 (by omega)).trans ((u48.2 63 4 (by omega)).trans ((u47.2 63 4 (by omega)).trans ((u46.2 63 4 (by omega)).trans ((fj44 63 4 rfl).trans ((u28.2 63 4 (by omega)).trans ((u27.2 63 4 (by omega)).trans ((u26.2 63 4 (by omega)).trans u25.1))))))))))) ?_
                            refine s_iload kx_180_430 rfl ?_
                            refine r_add kx_180_432 ⟨by omega, by omega⟩ ?_
                            have hlk82 : M56 63 13 = v81 := ((u73.2 63 13 (by omega))).symm.trans v81e
                            refine s_icmp_ne (t := 452) kx_180_433 (by decide) (fun hc83 => ?_) (fun hc83 => ?_)
                            · have hk84 : M73 63 4 = x1_2 := ((u73.2 63 4 (by omega)).trans ((fl56 63 4 rfl).trans ((u52.2 63 4 (by omega)).trans ((u49.2 63 4 (by omega)).trans ((u48.2 63 4 (by omega)).trans ((u47.2 63 4 (by omega)).trans ((u46.2 63 4 (by omega)).trans ((fj44 63 4 rfl).trans ((u28.2 63 4 (by omega)).trans ((u27.2 63 4 (by omega)).trans ((u26.2 63 4 (by omega)).trans u25.1)))))))))))
                              have hk85 : M73 63 5 = x1_54 := u73.1
                              have hk86 : M73 63 13 = v81 := v81e
                              have hk87 : M73 63 3 = 1 := ((u73.2 63 3 (by omega)).trans ((fl56 63 3 rfl).trans u52.1))
                              exact s_vret kx_180_452 kq_180 ⟨_, rfl, rfl, hI73, hFm73, ⟨LyA.eW ((((u73.2 63 10 (by omega)).trans ((fl56 63 10 rfl).trans ((u52.2 63 10 (by omega)).trans ((u49.2 63 10 (by omega)).trans ((u48.2 63 10 (by omega)).trans ((u47.2 63 10 (by omega)).trans ((u46.2 63 10 (by omega)).trans ((fj44 63 10 rfl).trans ((u28.2 63 10 (by omega)).trans ((u27.2 63 10 (by omega)).trans ((u26.2 63 10 (by omega)).trans (u25.2 63 10 (by omega)))))))))))))).trans h10) ((funext fun i => ((u73.2 64 i (by omega)).trans ((fl56 64 i rfl).trans ((u52.2 64 i (by omega)).trans ((u49.2 64 i (by omega)).trans ((u48.2 64 i (by omega)).trans ((u47.2 64 i (by omega)).trans ((u46.2 64 i (by omega)).trans ((fj44 64 i rfl).trans ((u28.2 64 i (by omega)).trans ((u27.2 64 i (by omega)).trans ((u26.2 64 i (by omega)).trans (u25.2 64 i (by omega)))))))))))))).trans hs) ((((u73.2 63 2 (by omega)).trans ((fl56 63 2 rfl).trans ((u52.2 63 2 (by omega)).trans ((u49.2 63 2 (by omega)).trans ((u48.2 63 2 (by omega)).trans ((u47.2 63 2 (by omega)).trans ((u46.2 63 2 (by omega)).trans ((fj44 63 2 rfl).trans ((u28.2 63 2 (by omega)).trans ((u27.2 63 2 (by omega)).trans ((u26.2 63 2 (by omega)).trans (u25.2 63 2 (by omega)))))))))))))).trans h2) h0 hpn (by omega) (by rw [← hB, hE]; exact u73.1) (by omega) (by rw [hcb]; exact ⟨by omega, by omega⟩) (by omega) (by rw [← hB, (u73.2 63 13 (by omega)), (u73.2 63 7 (by omega)), hE]; exact lyW1 hLX hnc (fun g => hWD.1 (by omega))), by omega, by omega, by omega⟩⟩
                            · refine s_aload_n kx_180_436 rfl ?_
                              refine s_aload_n kx_180_437 rfl ?_
                              refine r_getU (k := 63) (f := 7) kx_180_438 kp_180_32 (tk_63 hT) kf_12_7 (fun _ => rfl) (fun v88 v88e => ?_)
                              have hlk89 : M56 63 7 = v88 := ((u73.2 63 7 (by omega))).symm.trans v88e
                              refine s_callV2 (k := 63) (s1 := 3) (s2 := 0) (as := [(1, v88)]) (rest := []) kx_180_441 kp_180_276 (Or.inl rfl) rfl (tk_63 hT) ki_184 kcl_184 rfl rfl (by decide) (f_184 (d := d) (w := v88) hT hI73 (by omega)) (kF (fun v90 v90p => ?_))
                              refine s_if_eq (t := 452) kx_180_444 (by decide) (fun hc91 => ?_) (fun hc91 => ?_)
                              · replace v90p := v90p.resolve_left (by omega)
                                have hk92 : M73 63 4 = x1_2 := ((u73.2 63 4 (by omega)).trans ((fl56 63 4 rfl).trans ((u52.2 63 4 (by omega)).trans ((u49.2 63 4 (by omega)).trans ((u48.2 63 4 (by omega)).trans ((u47.2 63 4 (by omega)).trans ((u46.2 63 4 (by omega)).trans ((fj44 63 4 rfl).trans ((u28.2 63 4 (by omega)).trans ((u27.2 63 4 (by omega)).trans ((u26.2 63 4 (by omega)).trans u25.1)))))))))))
                                have hk93 : M73 63 5 = x1_54 := u73.1
                                have hk94 : M73 63 13 = v81 := v81e
                                have hk95 : M73 63 3 = 1 := ((u73.2 63 3 (by omega)).trans ((fl56 63 3 rfl).trans u52.1))
                                exact s_vret kx_180_452 kq_180 ⟨_, rfl, rfl, hI73, hFm73, ⟨LyA.eW ((((u73.2 63 10 (by omega)).trans ((fl56 63 10 rfl).trans ((u52.2 63 10 (by omega)).trans ((u49.2 63 10 (by omega)).trans ((u48.2 63 10 (by omega)).trans ((u47.2 63 10 (by omega)).trans ((u46.2 63 10 (by omega)).trans ((fj44 63 10 rfl).trans ((u28.2 63 10 (by omega)).trans ((u27.2 63 10 (by omega)).trans ((u26.2 63 10 (by omega)).trans (u25.2 63 10 (by omega)))))))))))))).trans h10) ((funext fun i => ((u73.2 64 i (by omega)).trans ((fl56 64 i rfl).trans ((u52.2 64 i (by omega)).trans ((u49.2 64 i (by omega)).trans ((u48.2 64 i (by omega)).trans ((u47.2 64 i (by omega)).trans ((u46.2 64 i (by omega)).trans ((fj44 64 i rfl).trans ((u28.2 64 i (by omega)).trans ((u27.2 64 i (by omega)).trans ((u26.2 64 i (by omega)).trans (u25.2 64 i (by omega)))))))))))))).trans hs) ((((u73.2 63 2 (by omega)).trans ((fl56 63 2 rfl).trans ((u52.2 63 2 (by omega)).trans ((u49.2 63 2 (by omega)).trans ((u48.2 63 2 (by omega)).trans ((u47.2 63 2 (by omega)).trans ((u46.2 63 2 (by omega)).trans ((fj44 63 2 rfl).trans ((u28.2 63 2 (by omega)).trans ((u27.2 63 2 (by omega)).trans ((u26.2 63 2 (by omega)).trans (u25.2 63 2 (by omega)))))))))))))).trans h2) h0 hpn (by omega) (by rw [← hB, hE]; exact u73.1) (by omega) (by rw [hcb]; exact ⟨by omega, by omega⟩) (by omega) (by rw [← hB, (u73.2 63 13 (by omega)), (u73.2 63 7 (by omega)), hE]; exact lyW1 hLX hnc (fun g => hWD.1 (by omega))), by omega, by omega, by omega⟩⟩
                              · replace v90p := v90p.resolve_right (by omega)
                                exact absurd v90p.2 (by rw [show v88 = M56 63 7 by omega]; exact WdT.no hWD (by have hz := hLX; unfold LxT at hz; omega) (by omega) hLl)
                        · refine s_aload_n kx_180_367 rfl ?_
                          refine r_getU (k := 63) (f := 7) kx_180_368 kp_180_32 (tk_63 hT) kf_12_7 (fun _ => rfl) (fun v96 v96e => ?_)
                          refine s_ldc2_w kx_180_371 kp_180_274 ?_
                          have hlk97 : M56 63 7 = v96 := ((u73.2 63 7 (by omega))).symm.trans v96e
                          refine r_lcmpE kx_180_374 ⟨by omega, by omega⟩ ⟨by omega, by omega⟩ (fun v98 v98p => ?_)
                          refine s_if_ne (t := 411) kx_180_375 (by decide) (fun hc99 => ?_) (fun hc99 => ?_)
                          · have hnc : ¬ owCp s n x1_2 := fun g => by have g1 := g.1; first | omega | (have hL9 : ∀ i : Nat, i < 9 → 97 ≤ owS s x1_2 i ∧ owS s x1_2 i ≤ 122 := (fun i hi => hLl i (by omega)); have g2 := (carp_iff hL9).mpr g.2; have g3 := hWD.2 (by omega); have g4 := hNI (by omega); omega)
                            refine s_iload_n kx_180_411 rfl ?_
                            refine s_if_eq (t := 452) kx_180_412 (by decide) (fun hc100 => absurd hc100 (by omega)) (fun hc100 => ?_)
                            refine s_iload kx_180_415 rfl ?_
                            refine s_bipush (v := 8) kx_180_417 (by decide) ?_
                            refine s_icmp_gt (t := 452) kx_180_419 (by decide) (fun hc101 => ?_) (fun hc101 => absurd hc101 (by omega))
                            have hk102 : M73 63 4 = x1_2 := ((u73.2 63 4 (by omega)).trans ((fl56 63 4 rfl).trans ((u52.2 63 4 (by omega)).trans ((u49.2 63 4 (by omega)).trans ((u48.2 63 4 (by omega)).trans ((u47.2 63 4 (by omega)).trans ((u46.2 63 4 (by omega)).trans ((fj44 63 4 rfl).trans ((u28.2 63 4 (by omega)).trans ((u27.2 63 4 (by omega)).trans ((u26.2 63 4 (by omega)).trans u25.1)))))))))))
                            have hk103 : M73 63 5 = x1_54 := u73.1
                            have hk104 : M73 63 3 = 1 := ((u73.2 63 3 (by omega)).trans ((fl56 63 3 rfl).trans u52.1))
                            exact s_vret kx_180_452 kq_180 ⟨_, rfl, rfl, hI73, hFm73, ⟨LyA.eW ((((u73.2 63 10 (by omega)).trans ((fl56 63 10 rfl).trans ((u52.2 63 10 (by omega)).trans ((u49.2 63 10 (by omega)).trans ((u48.2 63 10 (by omega)).trans ((u47.2 63 10 (by omega)).trans ((u46.2 63 10 (by omega)).trans ((fj44 63 10 rfl).trans ((u28.2 63 10 (by omega)).trans ((u27.2 63 10 (by omega)).trans ((u26.2 63 10 (by omega)).trans (u25.2 63 10 (by omega)))))))))))))).trans h10) ((funext fun i => ((u73.2 64 i (by omega)).trans ((fl56 64 i rfl).trans ((u52.2 64 i (by omega)).trans ((u49.2 64 i (by omega)).trans ((u48.2 64 i (by omega)).trans ((u47.2 64 i (by omega)).trans ((u46.2 64 i (by omega)).trans ((fj44 64 i rfl).trans ((u28.2 64 i (by omega)).trans ((u27.2 64 i (by omega)).trans ((u26.2 64 i (by omega)).trans (u25.2 64 i (by omega)))))))))))))).trans hs) ((((u73.2 63 2 (by omega)).trans ((fl56 63 2 rfl).trans ((u52.2 63 2 (by omega)).trans ((u49.2 63 2 (by omega)).trans ((u48.2 63 2 (by omega)).trans ((u47.2 63 2 (by omega)).trans ((u46.2 63 2 (by omega)).trans ((fj44 63 2 rfl).trans ((u28.2 63 2 (by omega)).trans ((u27.2 63 2 (by omega)).trans ((u26.2 63 2 (by omega)).trans (u25.2 63 2 (by omega)))))))))))))).trans h2) h0 hpn (by omega) (by rw [← hB, hE]; exact u73.1) (by omega) (by rw [hcb]; exact ⟨by omega, by omega⟩) (by omega) (by rw [← hB, (u73.2 63 13 (by omega)), (u73.2 63 7 (by omega)), hE]; exact lyW1 hLX hnc (fun g => hWD.1 (by omega))), by omega, by omega, by omega⟩⟩
                          · refine s_aload_n kx_180_378 rfl ?_
                            refine r_getU (k := 63) (f := 8) kx_180_379 kp_180_36 (tk_63 hT) kf_12_8 (fun _ => rfl) (fun v105 v105e => ?_)
                            refine s_bipush (v := 114) kx_180_382 (by decide) ?_
                            have hlk106 : M56 63 8 = v105 := ((u73.2 63 8 (by omega))).symm.trans v105e
                            refine s_icmp_ne (t := 411) kx_180_384 (by decide) (fun hc107 => ?_) (fun hc107 => ?_)
                            · have hnc : ¬ owCp s n x1_2 := fun g => by have g1 := g.1; first | omega | (have hL9 : ∀ i : Nat, i < 9 → 97 ≤ owS s x1_2 i ∧ owS s x1_2 i ≤ 122 := (fun i hi => hLl i (by omega)); have g2 := (carp_iff hL9).mpr g.2; have g3 := hWD.2 (by omega); have g4 := hNI (by omega); omega)
                              refine s_iload_n kx_180_411 rfl ?_
                              refine s_if_eq (t := 452) kx_180_412 (by decide) (fun hc108 => absurd hc108 (by omega)) (fun hc108 => ?_)
                              refine s_iload kx_180_415 rfl ?_
                              refine s_bipush (v := 8) kx_180_417 (by decide) ?_
                              refine s_icmp_gt (t := 452) kx_180_419 (by decide) (fun hc109 => ?_) (fun hc109 => absurd hc109 (by omega))
                              have hk110 : M73 63 4 = x1_2 := ((u73.2 63 4 (by omega)).trans ((fl56 63 4 rfl).trans ((u52.2 63 4 (by omega)).trans ((u49.2 63 4 (by omega)).trans ((u48.2 63 4 (by omega)).trans ((u47.2 63 4 (by omega)).trans ((u46.2 63 4 (by omega)).trans ((fj44 63 4 rfl).trans ((u28.2 63 4 (by omega)).trans ((u27.2 63 4 (by omega)).trans ((u26.2 63 4 (by omega)).trans u25.1)))))))))))
                              have hk111 : M73 63 5 = x1_54 := u73.1
                              have hk112 : M73 63 3 = 1 := ((u73.2 63 3 (by omega)).trans ((fl56 63 3 rfl).trans u52.1))
                              exact s_vret kx_180_452 kq_180 ⟨_, rfl, rfl, hI73, hFm73, ⟨LyA.eW ((((u73.2 63 10 (by omega)).trans ((fl56 63 10 rfl).trans ((u52.2 63 10 (by omega)).trans ((u49.2 63 10 (by omega)).trans ((u48.2 63 10 (by omega)).trans ((u47.2 63 10 (by omega)).trans ((u46.2 63 10 (by omega)).trans ((fj44 63 10 rfl).trans ((u28.2 63 10 (by omega)).trans ((u27.2 63 10 (by omega)).trans ((u26.2 63 10 (by omega)).trans (u25.2 63 10 (by omega)))))))))))))).trans h10) ((funext fun i => ((u73.2 64 i (by omega)).trans ((fl56 64 i rfl).trans ((u52.2 64 i (by omega)).trans ((u49.2 64 i (by omega)).trans ((u48.2 64 i (by omega)).trans ((u47.2 64 i (by omega)).trans ((u46.2 64 i (by omega)).trans ((fj44 64 i rfl).trans ((u28.2 64 i (by omega)).trans ((u27.2 64 i (by omega)).trans ((u26.2 64 i (by omega)).trans (u25.2 64 i (by omega)))))))))))))).trans hs) ((((u73.2 63 2 (by omega)).trans ((fl56 63 2 rfl).trans ((u52.2 63 2 (by omega)).trans ((u49.2 63 2 (by omega)).trans ((u48.2 63 2 (by omega)).trans ((u47.2 63 2 (by omega)).trans ((u46.2 63 2 (by omega)).trans ((fj44 63 2 rfl).trans ((u28.2 63 2 (by omega)).trans ((u27.2 63 2 (by omega)).trans ((u26.2 63 2 (by omega)).trans (u25.2 63 2 (by omega)))))))))))))).trans h2) h0 hpn (by omega) (by rw [← hB, hE]; exact u73.1) (by omega) (by rw [hcb]; exact ⟨by omega, by omega⟩) (by omega) (by rw [← hB, (u73.2 63 13 (by omega)), (u73.2 63 7 (by omega)), hE]; exact lyW1 hLX hnc (fun g => hWD.1 (by omega))), by omega, by omega, by omega⟩⟩
                            · have hL9 : ∀ i : Nat, i < 9 → 97 ≤ owS s x1_2 i ∧ owS s x1_2 i ≤ 122 := fun i hi => hLl i (by omega)
                              have hcp : owCp s n x1_2 := ⟨by omega, (carp_iff hL9).mp ⟨by rw [← hWD.2 (by omega)]; omega, by rw [← hNI (by omega)]; omega⟩⟩
                              refine s_aload_n kx_180_387 rfl ?_
                              refine s_lconst (v := 1) kx_180_388 (by decide) ?_
                              refine r_put (k := 63) (f := 7) kx_180_389 kp_180_32 (tk_63 hT) kf_12_7 rfl (by decide) (by decide) hI73 ru_63_7 (fun M113 hI113 u113 => ?_)
                              have hFm113 := hFm73.up u113 rfl
                              refine s_aload_n kx_180_392 rfl ?_
                              refine r_getI (k := 63) (f := 13) kx_180_393 kp_180_51 (tk_63 hT) kf_12_13 (fun _ => rfl) (rg_63_13 hI113) (fun v114 v114e v114a v114b => ?_)
                              refine s_aload_n kx_180_396 rfl ?_
                              refine r_getK (k := 63) (f := 4) kx_180_397 kp_180_23 (tk_63 hT) kf_12_4 (fun _ => rfl) ((u113.2 63 4 (by omega)).trans ((u73.2 63 4 (by omega)).trans ((fl56 63 4 rfl).trans ((u52.2 63 4 (by omega)).trans ((u49.2 63 4 (by omega)).trans ((u48.2 63 4 (by omega)).trans ((u47.2 63 4 (by omega)).trans ((u46.2 63 4 (by omega)).trans ((fj44 63 4 rfl).trans ((u28.2 63 4 (by omega)).trans ((u27.2 63 4 (by omega)).trans ((u26.2 63 4 (by omega)).trans u25.1)))))))))))) ?_
                              refine s_iload kx_180_400 rfl ?_
                              refine r_add kx_180_402 ⟨by omega, by omega⟩ ?_
                              have hlk115 : M56 63 13 = v114 := (((u113.2 63 13 (by omega)).trans (u73.2 63 13 (by omega)))).symm.trans v114e
                              refine s_icmp_ne (t := 411) kx_180_403 (by decide) (fun hc116 => ?_) (fun hc116 => ?_)
                              · refine s_iload_n kx_180_411 rfl ?_
                                refine s_if_eq (t := 452) kx_180_412 (by decide) (fun hc117 => absurd hc117 (by omega)) (fun hc117 => ?_)
                                refine s_iload kx_180_415 rfl ?_
                                refine s_bipush (v := 8) kx_180_417 (by decide) ?_
                                refine s_icmp_gt (t := 452) kx_180_419 (by decide) (fun hc118 => ?_) (fun hc118 => absurd hc118 (by omega))
                                have hk119 : M113 63 4 = x1_2 := ((u113.2 63 4 (by omega)).trans ((u73.2 63 4 (by omega)).trans ((fl56 63 4 rfl).trans ((u52.2 63 4 (by omega)).trans ((u49.2 63 4 (by omega)).trans ((u48.2 63 4 (by omega)).trans ((u47.2 63 4 (by omega)).trans ((u46.2 63 4 (by omega)).trans ((fj44 63 4 rfl).trans ((u28.2 63 4 (by omega)).trans ((u27.2 63 4 (by omega)).trans ((u26.2 63 4 (by omega)).trans u25.1))))))))))))
                                have hk120 : M113 63 5 = x1_54 := ((u113.2 63 5 (by omega)).trans u73.1)
                                have hk121 : M113 63 13 = v114 := v114e
                                have hk122 : M113 63 3 = 1 := ((u113.2 63 3 (by omega)).trans ((u73.2 63 3 (by omega)).trans ((fl56 63 3 rfl).trans u52.1)))
                                exact s_vret kx_180_452 kq_180 ⟨_, rfl, rfl, hI113, hFm113, ⟨LyA.eW ((((u113.2 63 10 (by omega)).trans ((u73.2 63 10 (by omega)).trans ((fl56 63 10 rfl).trans ((u52.2 63 10 (by omega)).trans ((u49.2 63 10 (by omega)).trans ((u48.2 63 10 (by omega)).trans ((u47.2 63 10 (by omega)).trans ((u46.2 63 10 (by omega)).trans ((fj44 63 10 rfl).trans ((u28.2 63 10 (by omega)).trans ((u27.2 63 10 (by omega)).trans ((u26.2 63 10 (by omega)).trans (u25.2 63 10 (by omega))))))))))))))).trans h10) ((funext fun i => ((u113.2 64 i (by omega)).trans ((u73.2 64 i (by omega)).trans ((fl56 64 i rfl).trans ((u52.2 64 i (by omega)).trans ((u49.2 64 i (by omega)).trans ((u48.2 64 i (by omega)).trans ((u47.2 64 i (by omega)).trans ((u46.2 64 i (by omega)).trans ((fj44 64 i rfl).trans ((u28.2 64 i (by omega)).trans ((u27.2 64 i (by omega)).trans ((u26.2 64 i (by omega)).trans (u25.2 64 i (by omega))))))))))))))).trans hs) ((((u113.2 63 2 (by omega)).trans ((u73.2 63 2 (by omega)).trans ((fl56 63 2 rfl).trans ((u52.2 63 2 (by omega)).trans ((u49.2 63 2 (by omega)).trans ((u48.2 63 2 (by omega)).trans ((u47.2 63 2 (by omega)).trans ((u46.2 63 2 (by omega)).trans ((fj44 63 2 rfl).trans ((u28.2 63 2 (by omega)).trans ((u27.2 63 2 (by omega)).trans ((u26.2 63 2 (by omega)).trans (u25.2 63 2 (by omega))))))))))))))).trans h2) h0 hpn (by omega) (by rw [← hB, hE]; exact ((u113.2 63 5 (by omega)).trans u73.1)) (by omega) (by rw [hcb]; exact ⟨by omega, by omega⟩) (by omega) (by rw [← hB]; rw [((u113.2 63 13 (by omega)).trans (u73.2 63 13 (by omega)))]; exact Or.inl (LxT.ad hLX (by omega) (by omega))), by omega, by omega, by omega⟩⟩
                              · refine s_aload_n kx_180_406 rfl ?_
                                refine s_iconst (v := (-1)) kx_180_407 (by decide) ?_
                                refine r_put (k := 63) (f := 13) kx_180_408 kp_180_51 (tk_63 hT) kf_12_13 rfl (by decide) (by decide) hI113 (ru_63_13 (by omega) (by omega)) (fun M123 hI123 u123 => ?_)
                                have hFm123 := hFm113.up u123 rfl
                                refine s_iload_n kx_180_411 rfl ?_
                                refine s_if_eq (t := 452) kx_180_412 (by decide) (fun hc124 => absurd hc124 (by omega)) (fun hc124 => ?_)
                                refine s_iload kx_180_415 rfl ?_
                                refine s_bipush (v := 8) kx_180_417 (by decide) ?_
                                refine s_icmp_gt (t := 452) kx_180_419 (by decide) (fun hc125 => ?_) (fun hc125 => absurd hc125 (by omega))
                                have hk126 : M123 63 4 = x1_2 := ((u123.2 63 4 (by omega)).trans ((u113.2 63 4 (by omega)).trans ((u73.2 63 4 (by omega)).trans ((fl56 63 4 rfl).trans ((u52.2 63 4 (by omega)).trans ((u49.2 63 4 (by omega)).trans ((u48.2 63 4 (by omega)).trans ((u47.2 63 4 (by omega)).trans ((u46.2 63 4 (by omega)).trans ((fj44 63 4 rfl).trans ((u28.2 63 4 (by omega)).trans ((u27.2 63 4 (by omega)).trans ((u26.2 63 4 (by omega)).trans u25.1)))))))))))))
                                have hk127 : M123 63 5 = x1_54 := ((u123.2 63 5 (by omega)).trans ((u113.2 63 5 (by omega)).trans u73.1))
                                have hk128 : M123 63 13 = (-1) := u123.1
                                have hk129 : M123 63 3 = 1 := ((u123.2 63 3 (by omega)).trans ((u113.2 63 3 (by omega)).trans ((u73.2 63 3 (by omega)).trans ((fl56 63 3 rfl).trans u52.1))))
                                exact s_vret kx_180_452 kq_180 ⟨_, rfl, rfl, hI123, hFm123, ⟨LyA.eW ((((u123.2 63 10 (by omega)).trans ((u113.2 63 10 (by omega)).trans ((u73.2 63 10 (by omega)).trans ((fl56 63 10 rfl).trans ((u52.2 63 10 (by omega)).trans ((u49.2 63 10 (by omega)).trans ((u48.2 63 10 (by omega)).trans ((u47.2 63 10 (by omega)).trans ((u46.2 63 10 (by omega)).trans ((fj44 63 10 rfl).trans ((u28.2 63 10 (by omega)).trans ((u27.2 63 10 (by omega)).trans ((u26.2 63 10 (by omega)).trans (u25.2 63 10 (by omega)))))))))))))))).trans h10) ((funext fun i => ((u123.2 64 i (by omega)).trans ((u113.2 64 i (by omega)).trans ((u73.2 64 i (by omega)).trans ((fl56 64 i rfl).trans ((u52.2 64 i (by omega)).trans ((u49.2 64 i (by omega)).trans ((u48.2 64 i (by omega)).trans ((u47.2 64 i (by omega)).trans ((u46.2 64 i (by omega)).trans ((fj44 64 i rfl).trans ((u28.2 64 i (by omega)).trans ((u27.2 64 i (by omega)).trans ((u26.2 64 i (by omega)).trans (u25.2 64 i (by omega)))))))))))))))).trans hs) ((((u123.2 63 2 (by omega)).trans ((u113.2 63 2 (by omega)).trans ((u73.2 63 2 (by omega)).trans ((fl56 63 2 rfl).trans ((u52.2 63 2 (by omega)).trans ((u49.2 63 2 (by omega)).trans ((u48.2 63 2 (by omega)).trans ((u47.2 63 2 (by omega)).trans ((u46.2 63 2 (by omega)).trans ((fj44 63 2 rfl).trans ((u28.2 63 2 (by omega)).trans ((u27.2 63 2 (by omega)).trans ((u26.2 63 2 (by omega)).trans (u25.2 63 2 (by omega)))))))))))))))).trans h2) h0 hpn (by omega) (by rw [← hB, hE]; exact ((u123.2 63 5 (by omega)).trans ((u113.2 63 5 (by omega)).trans u73.1))) (by omega) (by rw [hcb]; exact ⟨by omega, by omega⟩) (by omega) (by rw [← hB]; exact Or.inr (Or.inl ⟨LxT.na hLX (by decide) (by omega), hcp, u123.1, ((u123.2 63 7 (by omega)).trans u113.1)⟩)), by omega, by omega, by omega⟩⟩
                      · refine s_iload_n kx_180_212 rfl ?_
                        refine s_if_eq (t := 231) kx_180_213 (by decide) (fun hc130 => absurd hc130 (by omega)) (fun hc130 => ?_)
                        refine s_aload_n kx_180_216 rfl ?_
                        refine r_getR (k := 63) (f := 0) (k2 := 64) kx_180_217 kp_180_7 (tk_63 hT) kf_12_0 (by decide) (rq_63_0 hI56) ?_
                        refine s_iload_n kx_180_220 rfl ?_
                        refine r_ald (k := 64) kx_180_221 (tk_64 hT) ⟨by omega, by omega⟩ (rg_64 hI56) (fun v131 v131e v131a v131b => ?_)
                        have v131s : s (x1_54).toNat = v131 := (congrFun hs (x1_54).toNat).symm.trans ((((fl56 64 _ rfl).trans ((u52.2 64 _ (by omega)).trans ((u49.2 64 _ (by omega)).trans ((u48.2 64 _ (by omega)).trans ((u47.2 64 _ (by omega)).trans ((u46.2 64 _ (by omega)).trans ((fj44 64 _ rfl).trans ((u28.2 64 _ (by omega)).trans ((u27.2 64 _ (by omega)).trans ((u26.2 64 _ (by omega)).trans (u25.2 64 _ (by omega))))))))))))).symm.trans v131e)
                        refine s_callS2 (s1 := 1) (s2 := 0) (as := [(0, v131)]) (rest := []) kx_180_222 kp_180_267 rfl kcl_177 rfl rfl (by decide) (m_177 (d := d) (c := v131) hT hI56) (kF (fun v132 v132p => ?_))
                        refine s_if_eq (t := 351) kx_180_225 (by decide) (fun hc133 => ?_) (fun hc133 => ?_)
                        · replace v132p := v132p.resolve_left (by omega)
                          have hE : owEw s n x1_2 = x1_54 := owEw_stop i66 (Or.inr (by rw [v131s]; omega))
                          have hei := owEw_in (s := s) (n := n) (b := x1_2) (by omega) (by rw [hB, hcb]; exact ⟨by omega, by omega⟩)
                          have hLX := i67
                          have hWD := i68
                          have hNI := i69
                          have hLl : ∀ i : Nat, (i : Int) < x1_54 - x1_2 → 97 ≤ owS s x1_2 i ∧ owS s x1_2 i ≤ 122 := fun i hi => owS_lt (n := n) (q := x1_54) (by omega) i (by omega)
                          have hwr := WdT.rng hWD (by omega) hLl
                          refine s_aload_n kx_180_351 rfl ?_
                          refine s_iload_n kx_180_352 rfl ?_
                          refine r_put (k := 63) (f := 5) kx_180_353 kp_180_26 (tk_63 hT) kf_12_5 rfl (by decide) (by decide) hI56 (ru_63_5 (by omega) (by omega)) (fun M134 hI134 u134 => ?_)
                          have hFm134 := hFm56.up u134 rfl
                          refine s_iload_n kx_180_356 rfl ?_
                          refine s_if_eq (t := 411) kx_180_357 (by decide) (fun hc135 => absurd hc135 (by omega)) (fun hc135 => ?_)
                          refine s_iload kx_180_360 rfl ?_
                          refine s_bipush (v := 9) kx_180_362 (by decide) ?_
                          refine s_icmp_ne (t := 411) kx_180_364 (by decide) (fun hc136 => ?_) (fun hc136 => ?_)
                          · have hnc : ¬ owCp s n x1_2 := fun g => by have g1 := g.1; first | omega | (have hL9 : ∀ i : Nat, i < 9 → 97 ≤ owS s x1_2 i ∧ owS s x1_2 i ≤ 122 := (fun i hi => hLl i (by omega)); have g2 := (carp_iff hL9).mpr g.2; have g3 := hWD.2 (by omega); have g4 := hNI (by omega); omega)
                            refine s_iload_n kx_180_411 rfl ?_
                            refine s_if_eq (t := 452) kx_180_412 (by decide) (fun hc137 => absurd hc137 (by omega)) (fun hc137 => ?_)
                            refine s_iload kx_180_415 rfl ?_
                            refine s_bipush (v := 8) kx_180_417 (by decide) ?_
                            refine s_icmp_gt (t := 452) kx_180_419 (by decide) (fun hc138 => ?_) (fun hc138 => ?_)
                            · have hk139 : M134 63 4 = x1_2 := ((u134.2 63 4 (by omega)).trans ((fl56 63 4 rfl).trans ((u52.2 63 4 (by omega)).trans ((u49.2 63 4 (by omega)).trans ((u48.2 63 4 (by omega)).trans ((u47.2 63 4 (by omega)).trans ((u46.2 63 4 (by omega)).trans ((fj44 63 4 rfl).trans ((u28.2 63 4 (by omega)).trans ((u27.2 63 4 (by omega)).trans ((u26.2 63 4 (by omega)).trans u25.1)))))))))))
                              have hk140 : M134 63 5 = x1_54 := u134.1
                              have hk141 : M134 63 3 = 1 := ((u134.2 63 3 (by omega)).trans ((fl56 63 3 rfl).trans u52.1))
                              exact s_vret kx_180_452 kq_180 ⟨_, rfl, rfl, hI134, hFm134, ⟨LyA.eW ((((u134.2 63 10 (by omega)).trans ((fl56 63 10 rfl).trans ((u52.2 63 10 (by omega)).trans ((u49.2 63 10 (by omega)).trans ((u48.2 63 10 (by omega)).trans ((u47.2 63 10 (by omega)).trans ((u46.2 63 10 (by omega)).trans ((fj44 63 10 rfl).trans ((u28.2 63 10 (by omega)).trans ((u27.2 63 10 (by omega)).trans ((u26.2 63 10 (by omega)).trans (u25.2 63 10 (by omega)))))))))))))).trans h10) ((funext fun i => ((u134.2 64 i (by omega)).trans ((fl56 64 i rfl).trans ((u52.2 64 i (by omega)).trans ((u49.2 64 i (by omega)).trans ((u48.2 64 i (by omega)).trans ((u47.2 64 i (by omega)).trans ((u46.2 64 i (by omega)).trans ((fj44 64 i rfl).trans ((u28.2 64 i (by omega)).trans ((u27.2 64 i (by omega)).trans ((u26.2 64 i (by omega)).trans (u25.2 64 i (by omega)))))))))))))).trans hs) ((((u134.2 63 2 (by omega)).trans ((fl56 63 2 rfl).trans ((u52.2 63 2 (by omega)).trans ((u49.2 63 2 (by omega)).trans ((u48.2 63 2 (by omega)).trans ((u47.2 63 2 (by omega)).trans ((u46.2 63 2 (by omega)).trans ((fj44 63 2 rfl).trans ((u28.2 63 2 (by omega)).trans ((u27.2 63 2 (by omega)).trans ((u26.2 63 2 (by omega)).trans (u25.2 63 2 (by omega)))))))))))))).trans h2) h0 hpn (by omega) (by rw [← hB, hE]; exact u134.1) (by omega) (by rw [hcb]; exact ⟨by omega, by omega⟩) (by omega) (by rw [← hB, (u134.2 63 13 (by omega)), (u134.2 63 7 (by omega)), hE]; exact lyW1 hLX hnc (fun g => hWD.1 (by omega))), by omega, by omega, by omega⟩⟩
                            · refine s_aload_n kx_180_422 rfl ?_
                              refine r_getI (k := 63) (f := 13) kx_180_423 kp_180_51 (tk_63 hT) kf_12_13 (fun _ => rfl) (rg_63_13 hI134) (fun v142 v142e v142a v142b => ?_)
                              refine s_aload_n kx_180_426 rfl ?_
                              refine r_getK (k := 63) (f := 4) kx_180_427 kp_180_23 (tk_63 hT) kf_12_4 (fun _ => rfl) ((u134.2 63 4 (by omega)).trans ((fl56 63 4 rfl).trans ((u52.2 63 4 (by omega)).trans ((u49.2 63 4 (by omega)).trans ((u48.2 63 4 (by omega)).trans ((u47.2 63 4 (by omega)).trans ((u46.2 63 4 (by omega)).trans ((fj44 63 4 rfl).trans ((u28.2 63 4 (by omega)).trans ((u27.2 63 4 (by omega)).trans ((u26.2 63 4 (by omega)).trans u25.1))))))))))) ?_
                              refine s_iload kx_180_430 rfl ?_
                              refine r_add kx_180_432 ⟨by omega, by omega⟩ ?_
                              have hlk143 : M56 63 13 = v142 := ((u134.2 63 13 (by omega))).symm.trans v142e
                              refine s_icmp_ne (t := 452) kx_180_433 (by decide) (fun hc144 => ?_) (fun hc144 => ?_)
                              · have hk145 : M134 63 4 = x1_2 := ((u134.2 63 4 (by omega)).trans ((fl56 63 4 rfl).trans ((u52.2 63 4 (by omega)).trans ((u49.2 63 4 (by omega)).trans ((u48.2 63 4 (by omega)).trans ((u47.2 63 4 (by omega)).trans ((u46.2 63 4 (by omega)).trans ((fj44 63 4 rfl).trans ((u28.2 63 4 (by omega)).trans ((u27.2 63 4 (by omega)).trans ((u26.2 63 4 (by omega)).trans u25.1)))))))))))
                                have hk146 : M134 63 5 = x1_54 := u134.1
                                have hk147 : M134 63 13 = v142 := v142e
                                have hk148 : M134 63 3 = 1 := ((u134.2 63 3 (by omega)).trans ((fl56 63 3 rfl).trans u52.1))
                                exact s_vret kx_180_452 kq_180 ⟨_, rfl, rfl, hI134, hFm134, ⟨LyA.eW ((((u134.2 63 10 (by omega)).trans ((fl56 63 10 rfl).trans ((u52.2 63 10 (by omega)).trans ((u49.2 63 10 (by omega)).trans ((u48.2 63 10 (by omega)).trans ((u47.2 63 10 (by omega)).trans ((u46.2 63 10 (by omega)).trans ((fj44 63 10 rfl).trans ((u28.2 63 10 (by omega)).trans ((u27.2 63 10 (by omega)).trans ((u26.2 63 10 (by omega)).trans (u25.2 63 10 (by omega)))))))))))))).trans h10) ((funext fun i => ((u134.2 64 i (by omega)).trans ((fl56 64 i rfl).trans ((u52.2 64 i (by omega)).trans ((u49.2 64 i (by omega)).trans ((u48.2 64 i (by omega)).trans ((u47.2 64 i (by omega)).trans ((u46.2 64 i (by omega)).trans ((fj44 64 i rfl).trans ((u28.2 64 i (by omega)).trans ((u27.2 64 i (by omega)).trans ((u26.2 64 i (by omega)).trans (u25.2 64 i (by omega)))))))))))))).trans hs) ((((u134.2 63 2 (by omega)).trans ((fl56 63 2 rfl).trans ((u52.2 63 2 (by omega)).trans ((u49.2 63 2 (by omega)).trans ((u48.2 63 2 (by omega)).trans ((u47.2 63 2 (by omega)).trans ((u46.2 63 2 (by omega)).trans ((fj44 63 2 rfl).trans ((u28.2 63 2 (by omega)).trans ((u27.2 63 2 (by omega)).trans ((u26.2 63 2 (by omega)).trans (u25.2 63 2 (by omega)))))))))))))).trans h2) h0 hpn (by omega) (by rw [← hB, hE]; exact u134.1) (by omega) (by rw [hcb]; exact ⟨by omega, by omega⟩) (by omega) (by rw [← hB, (u134.2 63 13 (by omega)), (u134.2 63 7 (by omega)), hE]; exact lyW1 hLX hnc (fun g => hWD.1 (by omega))), by omega, by omega, by omega⟩⟩
                              · refine s_aload_n kx_180_436 rfl ?_
                                refine s_aload_n kx_180_437 rfl ?_
                                refine r_getU (k := 63) (f := 7) kx_180_438 kp_180_32 (tk_63 hT) kf_12_7 (fun _ => rfl) (fun v149 v149e => ?_)
                                have hlk150 : M56 63 7 = v149 := ((u134.2 63 7 (by omega))).symm.trans v149e
                                refine s_callV2 (k := 63) (s1 := 3) (s2 := 0) (as := [(1, v149)]) (rest := []) kx_180_441 kp_180_276 (Or.inl rfl) rfl (tk_63 hT) ki_184 kcl_184 rfl rfl (by decide) (f_184 (d := d) (w := v149) hT hI134 (by omega)) (kF (fun v151 v151p => ?_))
                                refine s_if_eq (t := 452) kx_180_444 (by decide) (fun hc152 => ?_) (fun hc152 => ?_)
                                · replace v151p := v151p.resolve_left (by omega)
                                  have hk153 : M134 63 4 = x1_2 := ((u134.2 63 4 (by omega)).trans ((fl56 63 4 rfl).trans ((u52.2 63 4 (by omega)).trans ((u49.2 63 4 (by omega)).trans ((u48.2 63 4 (by omega)).trans ((u47.2 63 4 (by omega)).trans ((u46.2 63 4 (by omega)).trans ((fj44 63 4 rfl).trans ((u28.2 63 4 (by omega)).trans ((u27.2 63 4 (by omega)).trans ((u26.2 63 4 (by omega)).trans u25.1)))))))))))
                                  have hk154 : M134 63 5 = x1_54 := u134.1
                                  have hk155 : M134 63 13 = v142 := v142e
                                  have hk156 : M134 63 3 = 1 := ((u134.2 63 3 (by omega)).trans ((fl56 63 3 rfl).trans u52.1))
                                  exact s_vret kx_180_452 kq_180 ⟨_, rfl, rfl, hI134, hFm134, ⟨LyA.eW ((((u134.2 63 10 (by omega)).trans ((fl56 63 10 rfl).trans ((u52.2 63 10 (by omega)).trans ((u49.2 63 10 (by omega)).trans ((u48.2 63 10 (by omega)).trans ((u47.2 63 10 (by omega)).trans ((u46.2 63 10 (by omega)).trans ((fj44 63 10 rfl).trans ((u28.2 63 10 (by omega)).trans ((u27.2 63 10 (by omega)).trans ((u26.2 63 10 (by omega)).trans (u25.2 63 10 (by omega)))))))))))))).trans h10) ((funext fun i => ((u134.2 64 i (by omega)).trans ((fl56 64 i rfl).trans ((u52.2 64 i (by omega)).trans ((u49.2 64 i (by omega)).trans ((u48.2 64 i (by omega)).trans ((u47.2 64 i (by omega)).trans ((u46.2 64 i (by omega)).trans ((fj44 64 i rfl).trans ((u28.2 64 i (by omega)).trans ((u27.2 64 i (by omega)).trans ((u26.2 64 i (by omega)).trans (u25.2 64 i (by omega)))))))))))))).trans hs) ((((u134.2 63 2 (by omega)).trans ((fl56 63 2 rfl).trans ((u52.2 63 2 (by omega)).trans ((u49.2 63 2 (by omega)).trans ((u48.2 63 2 (by omega)).trans ((u47.2 63 2 (by omega)).trans ((u46.2 63 2 (by omega)).trans ((fj44 63 2 rfl).trans ((u28.2 63 2 (by omega)).trans ((u27.2 63 2 (by omega)).trans ((u26.2 63 2 (by omega)).trans (u25.2 63 2 (by omega)))))))))))))).trans h2) h0 hpn (by omega) (by rw [← hB, hE]; exact u134.1) (by omega) (by rw [hcb]; exact ⟨by omega, by omega⟩) (by omega) (by rw [← hB, (u134.2 63 13 (by omega)), (u134.2 63 7 (by omega)), hE]; exact lyW1 hLX hnc (fun g => hWD.1 (by omega))), by omega, by omega, by omega⟩⟩
                                · replace v151p := v151p.resolve_right (by omega)
                                  exact absurd v151p.2 (by rw [show v149 = M56 63 7 by omega]; exact WdT.no hWD (by have hz := hLX; unfold LxT at hz; omega) (by omega) hLl)
                          · refine s_aload_n kx_180_367 rfl ?_
                            refine r_getU (k := 63) (f := 7) kx_180_368 kp_180_32 (tk_63 hT) kf_12_7 (fun _ => rfl) (fun v157 v157e => ?_)
                            refine s_ldc2_w kx_180_371 kp_180_274 ?_
                            have hlk158 : M56 63 7 = v157 := ((u134.2 63 7 (by omega))).symm.trans v157e
                            refine r_lcmpE kx_180_374 ⟨by omega, by omega⟩ ⟨by omega, by omega⟩ (fun v159 v159p => ?_)
                            refine s_if_ne (t := 411) kx_180_375 (by decide) (fun hc160 => ?_) (fun hc160 => ?_)
                            · have hnc : ¬ owCp s n x1_2 := fun g => by have g1 := g.1; first | omega | (have hL9 : ∀ i : Nat, i < 9 → 97 ≤ owS s x1_2 i ∧ owS s x1_2 i ≤ 122 := (fun i hi => hLl i (by omega)); have g2 := (carp_iff hL9).mpr g.2; have g3 := hWD.2 (by omega); have g4 := hNI (by omega); omega)
                              refine s_iload_n kx_180_411 rfl ?_
                              refine s_if_eq (t := 452) kx_180_412 (by decide) (fun hc161 => absurd hc161 (by omega)) (fun hc161 => ?_)
                              refine s_iload kx_180_415 rfl ?_
                              refine s_bipush (v := 8) kx_180_417 (by decide) ?_
                              refine s_icmp_gt (t := 452) kx_180_419 (by decide) (fun hc162 => ?_) (fun hc162 => absurd hc162 (by omega))
                              have hk163 : M134 63 4 = x1_2 := ((u134.2 63 4 (by omega)).trans ((fl56 63 4 rfl).trans ((u52.2 63 4 (by omega)).trans ((u49.2 63 4 (by omega)).trans ((u48.2 63 4 (by omega)).trans ((u47.2 63 4 (by omega)).trans ((u46.2 63 4 (by omega)).trans ((fj44 63 4 rfl).trans ((u28.2 63 4 (by omega)).trans ((u27.2 63 4 (by omega)).trans ((u26.2 63 4 (by omega)).trans u25.1)))))))))))
                              have hk164 : M134 63 5 = x1_54 := u134.1
                              have hk165 : M134 63 3 = 1 := ((u134.2 63 3 (by omega)).trans ((fl56 63 3 rfl).trans u52.1))
                              exact s_vret kx_180_452 kq_180 ⟨_, rfl, rfl, hI134, hFm134, ⟨LyA.eW ((((u134.2 63 10 (by omega)).trans ((fl56 63 10 rfl).trans ((u52.2 63 10 (by omega)).trans ((u49.2 63 10 (by omega)).trans ((u48.2 63 10 (by omega)).trans ((u47.2 63 10 (by omega)).trans ((u46.2 63 10 (by omega)).trans ((fj44 63 10 rfl).trans ((u28.2 63 10 (by omega)).trans ((u27.2 63 10 (by omega)).trans ((u26.2 63 10 (by omega)).trans (u25.2 63 10 (by omega)))))))))))))).trans h10) ((funext fun i => ((u134.2 64 i (by omega)).trans ((fl56 64 i rfl).trans ((u52.2 64 i (by omega)).trans ((u49.2 64 i (by omega)).trans ((u48.2 64 i (by omega)).trans ((u47.2 64 i (by omega)).trans ((u46.2 64 i (by omega)).trans ((fj44 64 i rfl).trans ((u28.2 64 i (by omega)).trans ((u27.2 64 i (by omega)).trans ((u26.2 64 i (by omega)).trans (u25.2 64 i (by omega)))))))))))))).trans hs) ((((u134.2 63 2 (by omega)).trans ((fl56 63 2 rfl).trans ((u52.2 63 2 (by omega)).trans ((u49.2 63 2 (by omega)).trans ((u48.2 63 2 (by omega)).trans ((u47.2 63 2 (by omega)).trans ((u46.2 63 2 (by omega)).trans ((fj44 63 2 rfl).trans ((u28.2 63 2 (by omega)).trans ((u27.2 63 2 (by omega)).trans ((u26.2 63 2 (by omega)).trans (u25.2 63 2 (by omega)))))))))))))).trans h2) h0 hpn (by omega) (by rw [← hB, hE]; exact u134.1) (by omega) (by rw [hcb]; exact ⟨by omega, by omega⟩) (by omega) (by rw [← hB, (u134.2 63 13 (by omega)), (u134.2 63 7 (by omega)), hE]; exact lyW1 hLX hnc (fun g => hWD.1 (by omega))), by omega, by omega, by omega⟩⟩
                            · refine s_aload_n kx_180_378 rfl ?_
                              refine r_getU (k := 63) (f := 8) kx_180_379 kp_180_36 (tk_63 hT) kf_12_8 (fun _ => rfl) (fun v166 v166e => ?_)
                              refine s_bipush (v := 114) kx_180_382 (by decide) ?_
                              have hlk167 : M56 63 8 = v166 := ((u134.2 63 8 (by omega))).symm.trans v166e
                              refine s_icmp_ne (t := 411) kx_180_384 (by decide) (fun hc168 => ?_) (fun hc168 => ?_)
                              · have hnc : ¬ owCp s n x1_2 := fun g => by have g1 := g.1; first | omega | (have hL9 : ∀ i : Nat, i < 9 → 97 ≤ owS s x1_2 i ∧ owS s x1_2 i ≤ 122 := (fun i hi => hLl i (by omega)); have g2 := (carp_iff hL9).mpr g.2; have g3 := hWD.2 (by omega); have g4 := hNI (by omega); omega)
                                refine s_iload_n kx_180_411 rfl ?_
                                refine s_if_eq (t := 452) kx_180_412 (by decide) (fun hc169 => absurd hc169 (by omega)) (fun hc169 => ?_)
                                refine s_iload kx_180_415 rfl ?_
                                refine s_bipush (v := 8) kx_180_417 (by decide) ?_
                                refine s_icmp_gt (t := 452) kx_180_419 (by decide) (fun hc170 => ?_) (fun hc170 => absurd hc170 (by omega))
                                have hk171 : M134 63 4 = x1_2 := ((u134.2 63 4 (by omega)).trans ((fl56 63 4 rfl).trans ((u52.2 63 4 (by omega)).trans ((u49.2 63 4 (by omega)).trans ((u48.2 63 4 (by omega)).trans ((u47.2 63 4 (by omega)).trans ((u46.2 63 4 (by omega)).trans ((fj44 63 4 rfl).trans ((u28.2 63 4 (by omega)).trans ((u27.2 63 4 (by omega)).trans ((u26.2 63 4 (by omega)).trans u25.1)))))))))))
                                have hk172 : M134 63 5 = x1_54 := u134.1
                                have hk173 : M134 63 3 = 1 := ((u134.2 63 3 (by omega)).trans ((fl56 63 3 rfl).trans u52.1))
                                exact s_vret kx_180_452 kq_180 ⟨_, rfl, rfl, hI134, hFm134, ⟨LyA.eW ((((u134.2 63 10 (by omega)).trans ((fl56 63 10 rfl).trans ((u52.2 63 10 (by omega)).trans ((u49.2 63 10 (by omega)).trans ((u48.2 63 10 (by omega)).trans ((u47.2 63 10 (by omega)).trans ((u46.2 63 10 (by omega)).trans ((fj44 63 10 rfl).trans ((u28.2 63 10 (by omega)).trans ((u27.2 63 10 (by omega)).trans ((u26.2 63 10 (by omega)).trans (u25.2 63 10 (by omega)))))))))))))).trans h10) ((funext fun i => ((u134.2 64 i (by omega)).trans ((fl56 64 i rfl).trans ((u52.2 64 i (by omega)).trans ((u49.2 64 i (by omega)).trans ((u48.2 64 i (by omega)).trans ((u47.2 64 i (by omega)).trans ((u46.2 64 i (by omega)).trans ((fj44 64 i rfl).trans ((u28.2 64 i (by omega)).trans ((u27.2 64 i (by omega)).trans ((u26.2 64 i (by omega)).trans (u25.2 64 i (by omega)))))))))))))).trans hs) ((((u134.2 63 2 (by omega)).trans ((fl56 63 2 rfl).trans ((u52.2 63 2 (by omega)).trans ((u49.2 63 2 (by omega)).trans ((u48.2 63 2 (by omega)).trans ((u47.2 63 2 (by omega)).trans ((u46.2 63 2 (by omega)).trans ((fj44 63 2 rfl).trans ((u28.2 63 2 (by omega)).trans ((u27.2 63 2 (by omega)).trans ((u26.2 63 2 (by omega)).trans (u25.2 63 2 (by omega)))))))))))))).trans h2) h0 hpn (by omega) (by rw [← hB, hE]; exact u134.1) (by omega) (by rw [hcb]; exact ⟨by omega, by omega⟩) (by omega) (by rw [← hB, (u134.2 63 13 (by omega)), (u134.2 63 7 (by omega)), hE]; exact lyW1 hLX hnc (fun g => hWD.1 (by omega))), by omega, by omega, by omega⟩⟩
                              · have hL9 : ∀ i : Nat, i < 9 → 97 ≤ owS s x1_2 i ∧ owS s x1_2 i ≤ 122 := fun i hi => hLl i (by omega)
                                have hcp : owCp s n x1_2 := ⟨by omega, (carp_iff hL9).mp ⟨by rw [← hWD.2 (by omega)]; omega, by rw [← hNI (by omega)]; omega⟩⟩
                                refine s_aload_n kx_180_387 rfl ?_
                                refine s_lconst (v := 1) kx_180_388 (by decide) ?_
                                refine r_put (k := 63) (f := 7) kx_180_389 kp_180_32 (tk_63 hT) kf_12_7 rfl (by decide) (by decide) hI134 ru_63_7 (fun M174 hI174 u174 => ?_)
                                have hFm174 := hFm134.up u174 rfl
                                refine s_aload_n kx_180_392 rfl ?_
                                refine r_getI (k := 63) (f := 13) kx_180_393 kp_180_51 (tk_63 hT) kf_12_13 (fun _ => rfl) (rg_63_13 hI174) (fun v175 v175e v175a v175b => ?_)
                                refine s_aload_n kx_180_396 rfl ?_
                                refine r_getK (k := 63) (f := 4) kx_180_397 kp_180_23 (tk_63 hT) kf_12_4 (fun _ => rfl) ((u174.2 63 4 (by omega)).trans ((u134.2 63 4 (by omega)).trans ((fl56 63 4 rfl).trans ((u52.2 63 4 (by omega)).trans ((u49.2 63 4 (by omega)).trans ((u48.2 63 4 (by omega)).trans ((u47.2 63 4 (by omega)).trans ((u46.2 63 4 (by omega)).trans ((fj44 63 4 rfl).trans ((u28.2 63 4 (by omega)).trans ((u27.2 63 4 (by omega)).trans ((u26.2 63 4 (by omega)).trans u25.1)))))))))))) ?_
                                refine s_iload kx_180_400 rfl ?_
                                refine r_add kx_180_402 ⟨by omega, by omega⟩ ?_
                                have hlk176 : M56 63 13 = v175 := (((u174.2 63 13 (by omega)).trans (u134.2 63 13 (by omega)))).symm.trans v175e
                                refine s_icmp_ne (t := 411) kx_180_403 (by decide) (fun hc177 => ?_) (fun hc177 => ?_)
                                · refine s_iload_n kx_180_411 rfl ?_
                                  refine s_if_eq (t := 452) kx_180_412 (by decide) (fun hc178 => absurd hc178 (by omega)) (fun hc178 => ?_)
                                  refine s_iload kx_180_415 rfl ?_
                                  refine s_bipush (v := 8) kx_180_417 (by decide) ?_
                                  refine s_icmp_gt (t := 452) kx_180_419 (by decide) (fun hc179 => ?_) (fun hc179 => absurd hc179 (by omega))
                                  have hk180 : M174 63 4 = x1_2 := ((u174.2 63 4 (by omega)).trans ((u134.2 63 4 (by omega)).trans ((fl56 63 4 rfl).trans ((u52.2 63 4 (by omega)).trans ((u49.2 63 4 (by omega)).trans ((u48.2 63 4 (by omega)).trans ((u47.2 63 4 (by omega)).trans ((u46.2 63 4 (by omega)).trans ((fj44 63 4 rfl).trans ((u28.2 63 4 (by omega)).trans ((u27.2 63 4 (by omega)).trans ((u26.2 63 4 (by omega)).trans u25.1))))))))))))
                                  have hk181 : M174 63 5 = x1_54 := ((u174.2 63 5 (by omega)).trans u134.1)
                                  have hk182 : M174 63 13 = v175 := v175e
                                  have hk183 : M174 63 3 = 1 := ((u174.2 63 3 (by omega)).trans ((u134.2 63 3 (by omega)).trans ((fl56 63 3 rfl).trans u52.1)))
                                  exact s_vret kx_180_452 kq_180 ⟨_, rfl, rfl, hI174, hFm174, ⟨LyA.eW ((((u174.2 63 10 (by omega)).trans ((u134.2 63 10 (by omega)).trans ((fl56 63 10 rfl).trans ((u52.2 63 10 (by omega)).trans ((u49.2 63 10 (by omega)).trans ((u48.2 63 10 (by omega)).trans ((u47.2 63 10 (by omega)).trans ((u46.2 63 10 (by omega)).trans ((fj44 63 10 rfl).trans ((u28.2 63 10 (by omega)).trans ((u27.2 63 10 (by omega)).trans ((u26.2 63 10 (by omega)).trans (u25.2 63 10 (by omega))))))))))))))).trans h10) ((funext fun i => ((u174.2 64 i (by omega)).trans ((u134.2 64 i (by omega)).trans ((fl56 64 i rfl).trans ((u52.2 64 i (by omega)).trans ((u49.2 64 i (by omega)).trans ((u48.2 64 i (by omega)).trans ((u47.2 64 i (by omega)).trans ((u46.2 64 i (by omega)).trans ((fj44 64 i rfl).trans ((u28.2 64 i (by omega)).trans ((u27.2 64 i (by omega)).trans ((u26.2 64 i (by omega)).trans (u25.2 64 i (by omega))))))))))))))).trans hs) ((((u174.2 63 2 (by omega)).trans ((u134.2 63 2 (by omega)).trans ((fl56 63 2 rfl).trans ((u52.2 63 2 (by omega)).trans ((u49.2 63 2 (by omega)).trans ((u48.2 63 2 (by omega)).trans ((u47.2 63 2 (by omega)).trans ((u46.2 63 2 (by omega)).trans ((fj44 63 2 rfl).trans ((u28.2 63 2 (by omega)).trans ((u27.2 63 2 (by omega)).trans ((u26.2 63 2 (by omega)).trans (u25.2 63 2 (by omega))))))))))))))).trans h2) h0 hpn (by omega) (by rw [← hB, hE]; exact ((u174.2 63 5 (by omega)).trans u134.1)) (by omega) (by rw [hcb]; exact ⟨by omega, by omega⟩) (by omega) (by rw [← hB]; rw [((u174.2 63 13 (by omega)).trans (u134.2 63 13 (by omega)))]; exact Or.inl (LxT.ad hLX (by omega) (by omega))), by omega, by omega, by omega⟩⟩
                                · refine s_aload_n kx_180_406 rfl ?_
                                  refine s_iconst (v := (-1)) kx_180_407 (by decide) ?_
                                  refine r_put (k := 63) (f := 13) kx_180_408 kp_180_51 (tk_63 hT) kf_12_13 rfl (by decide) (by decide) hI174 (ru_63_13 (by omega) (by omega)) (fun M184 hI184 u184 => ?_)
                                  have hFm184 := hFm174.up u184 rfl
                                  refine s_iload_n kx_180_411 rfl ?_
                                  refine s_if_eq (t := 452) kx_180_412 (by decide) (fun hc185 => absurd hc185 (by omega)) (fun hc185 => ?_)
                                  refine s_iload kx_180_415 rfl ?_
                                  refine s_bipush (v := 8) kx_180_417 (by decide) ?_
                                  refine s_icmp_gt (t := 452) kx_180_419 (by decide) (fun hc186 => ?_) (fun hc186 => absurd hc186 (by omega))
                                  have hk187 : M184 63 4 = x1_2 := ((u184.2 63 4 (by omega)).trans ((u174.2 63 4 (by omega)).trans ((u134.2 63 4 (by omega)).trans ((fl56 63 4 rfl).trans ((u52.2 63 4 (by omega)).trans ((u49.2 63 4 (by omega)).trans ((u48.2 63 4 (by omega)).trans ((u47.2 63 4 (by omega)).trans ((u46.2 63 4 (by omega)).trans ((fj44 63 4 rfl).trans ((u28.2 63 4 (by omega)).trans ((u27.2 63 4 (by omega)).trans ((u26.2 63 4 (by omega)).trans u25.1)))))))))))))
                                  have hk188 : M184 63 5 = x1_54 := ((u184.2 63 5 (by omega)).trans ((u174.2 63 5 (by omega)).trans u134.1))
                                  have hk189 : M184 63 13 = (-1) := u184.1
                                  have hk190 : M184 63 3 = 1 := ((u184.2 63 3 (by omega)).trans ((u174.2 63 3 (by omega)).trans ((u134.2 63 3 (by omega)).trans ((fl56 63 3 rfl).trans u52.1))))
                                  exact s_vret kx_180_452 kq_180 ⟨_, rfl, rfl, hI184, hFm184, ⟨LyA.eW ((((u184.2 63 10 (by omega)).trans ((u174.2 63 10 (by omega)).trans ((u134.2 63 10 (by omega)).trans ((fl56 63 10 rfl).trans ((u52.2 63 10 (by omega)).trans ((u49.2 63 10 (by omega)).trans ((u48.2 63 10 (by omega)).trans ((u47.2 63 10 (by omega)).trans ((u46.2 63 10 (by omega)).trans ((fj44 63 10 rfl).trans ((u28.2 63 10 (by omega)).trans ((u27.2 63 10 (by omega)).trans ((u26.2 63 10 (by omega)).trans (u25.2 63 10 (by omega)))))))))))))))).trans h10) ((funext fun i => ((u184.2 64 i (by omega)).trans ((u174.2 64 i (by omega)).trans ((u134.2 64 i (by omega)).trans ((fl56 64 i rfl).trans ((u52.2 64 i (by omega)).trans ((u49.2 64 i (by omega)).trans ((u48.2 64 i (by omega)).trans ((u47.2 64 i (by omega)).trans ((u46.2 64 i (by omega)).trans ((fj44 64 i rfl).trans ((u28.2 64 i (by omega)).trans ((u27.2 64 i (by omega)).trans ((u26.2 64 i (by omega)).trans (u25.2 64 i (by omega)))))))))))))))).trans hs) ((((u184.2 63 2 (by omega)).trans ((u174.2 63 2 (by omega)).trans ((u134.2 63 2 (by omega)).trans ((fl56 63 2 rfl).trans ((u52.2 63 2 (by omega)).trans ((u49.2 63 2 (by omega)).trans ((u48.2 63 2 (by omega)).trans ((u47.2 63 2 (by omega)).trans ((u46.2 63 2 (by omega)).trans ((fj44 63 2 rfl).trans ((u28.2 63 2 (by omega)).trans ((u27.2 63 2 (by omega)).trans ((u26.2 63 2 (by omega)).trans (u25.2 63 2 (by omega)))))))))))))))).trans h2) h0 hpn (by omega) (by rw [← hB, hE]; exact ((u184.2 63 5 (by omega)).trans ((u174.2 63 5 (by omega)).trans u134.1))) (by omega) (by rw [hcb]; exact ⟨by omega, by omega⟩) (by omega) (by rw [← hB]; exact Or.inr (Or.inl ⟨LxT.na hLX (by decide) (by omega), hcp, u184.1, ((u184.2 63 7 (by omega)).trans u174.1)⟩)), by omega, by omega, by omega⟩⟩
                        · replace v132p := v132p.resolve_right (by omega)
                          refine s_goto (t := 243) kx_180_228 (by decide) ?_
                          have hEs := owEw_step i66 (by omega) v131s (by omega) (by omega)
                          have hLt : ∀ i : Nat, (i : Int) ≤ x1_54 - x1_2 → 97 ≤ owS s x1_2 i ∧ owS s x1_2 i ≤ 122 := fun i hi => owS_lt (n := n) (q := x1_54 + 1) hEs.2 i (by omega)
                          have hSc : owS s x1_2 (x1_54 - x1_2).toNat = v131 := (owS_at (by omega)).trans v131s
                          refine s_iload kx_180_243 rfl ?_
                          refine s_iload kx_180_245 rfl ?_
                          have jn197 : ∀ M198 : cM, Rng M198 → Fr gS_180_j247 M56 M198 → Fr gS_180_m M M198 → Fr gS_180_l204 M52 M198 → (LxT (M198 63 13) (owAd s x1_2) x1_2 (x1_54 + 1) 6) → cP k_P xs Ln (d + 1) 180 263 [(0, rf 63), (1, (0, x1_54)), (2, (0, v30)), (3, (0, v31)), (4, (0, 6)), (5, (0, x5_55))] [] (T, M198) (qV T M gS_180_m (fun M1 => LyA M1 s n p ∧ M 63 5 ≤ M1 63 4 ∧ M1 63 4 ≤ M1 63 5 ∧ (M1 63 3 = 0 ∨ M1 63 4 + 1 ≤ M1 63 5))) := by
                            intro M198 hI198 fj198 hFm198 hFl204198 a199
                            refine s_iload kx_180_263 rfl ?_
                            refine s_bipush (v := 8) kx_180_265 (by decide) ?_
                            have jn208 : ∀ M209 : cM, Rng M209 → Fr gS_180_j267 M198 M209 → Fr gS_180_m M M209 → Fr gS_180_l204 M52 M209 → (WdT (M209 63 7) (owS s x1_2) (x1_54 - x1_2 + 1)) → cP k_P xs Ln (d + 1) 180 293 [(0, rf 63), (1, (0, x1_54)), (2, (0, v30)), (3, (0, v31)), (4, (0, 6)), (5, (0, x5_55))] [] (T, M209) (qV T M gS_180_m (fun M1 => LyA M1 s n p ∧ M 63 5 ≤ M1 63 4 ∧ M1 63 4 ≤ M1 63 5 ∧ (M1 63 3 = 0 ∨ M1 63 4 + 1 ≤ M1 63 5))) := by
                              intro M209 hI209 fj209 hFm209 hFl204209 a210
                              refine s_iload kx_180_293 rfl ?_
                              refine s_bipush (v := 8) kx_180_295 (by decide) ?_
                              have jn215 : ∀ M216 : cM, Rng M216 → Fr gS_180_j297 M209 M216 → Fr gS_180_m M M216 → Fr gS_180_l204 M52 M216 → (NiT (M216 63 8) (owS s x1_2) (x1_54 - x1_2 + 1)) → cP k_P xs Ln (d + 1) 180 310 [(0, rf 63), (1, (0, x1_54)), (2, (0, v30)), (3, (0, v31)), (4, (0, 6)), (5, (0, x5_55))] [] (T, M216) (qV T M gS_180_m (fun M1 => LyA M1 s n p ∧ M 63 5 ≤ M1 63 4 ∧ M1 63 4 ≤ M1 63 5 ∧ (M1 63 3 = 0 ∨ M1 63 4 + 1 ≤ M1 63 5))) := by
                                intro M216 hI216 fj216 hFm216 hFl204216 a217
                                refine s_iload kx_180_310 rfl ?_
                                refine s_iload kx_180_312 rfl ?_
                                have jn222 : cP k_P xs Ln (d + 1) 180 342 [(0, rf 63), (1, (0, x1_54)), (2, (0, v30)), (3, (0, v31)), (4, (0, 6)), (5, (0, x5_55))] [] (T, M216) (qV T M gS_180_m (fun M1 => LyA M1 s n p ∧ M 63 5 ≤ M1 63 4 ∧ M1 63 4 ≤ M1 63 5 ∧ (M1 63 3 = 0 ∨ M1 63 4 + 1 ≤ M1 63 5))) := by
                                  refine r_iinc kx_180_342 rfl km_180_5 (by decide) ⟨by omega, by omega⟩ rfl ?_
                                  refine r_iinc kx_180_345 rfl km_180_1 (by decide) ⟨by omega, by omega⟩ rfl ?_
                                  refine s_goto (t := 204) kx_180_348 (by decide) ?_
                                  exact cP.wk (lS1 rfl (lS1 rfl (lS1 rfl (lS1 rfl (lS1 rfl (lS1 rfl lS0)))))) (ih71 (x1_54 + 1) (x5_55 + 1) M216 hI216 hFm216 hFl204216 (by omega) (by omega) (by omega) (by omega) (by omega) (by omega) (by omega) hEs.1 (by rw [((fj216 63 13 rfl).trans (fj209 63 13 rfl))]; exact a199) (by rw [(fj216 63 7 rfl)]; rw [show x1_54 + 1 - x1_2 = x1_54 - x1_2 + 1 by omega]; exact a210) (by rw [show x1_54 + 1 - x1_2 = x1_54 - x1_2 + 1 by omega]; exact a217) (by omega))
                                refine s_icmp_ge (t := 342) kx_180_314 (by decide) (fun hc218 => ?_) (fun hc218 => ?_)
                                · have hJ219 : Fr gS_180_j314 M216 M216 := Fr.refl
                                  exact cP.wk (lS1 rfl (lS1 rfl (lS1 rfl (lS1 rfl (lS1 rfl (lS1 rfl lS0)))))) (jn222)
                                · have hJ220 : Fr gS_180_j314 M216 M216 := Fr.refl
                                  refine s_iload_n kx_180_317 rfl ?_
                                  refine s_if_eq (t := 342) kx_180_318 (by decide) (fun hc221 => ?_) (fun hc221 => absurd hc221 (by omega))
                                  exact cP.wk (lS1 rfl (lS1 rfl (lS1 rfl (lS1 rfl (lS1 rfl (lS1 rfl lS0)))))) (jn222)
                              refine s_icmp_ne (t := 310) kx_180_297 (by decide) (fun hc211 => ?_) (fun hc211 => ?_)
                              · have hJ212 : Fr gS_180_j297 M209 M209 := Fr.refl
                                exact cP.wk (lS1 rfl (lS1 rfl (lS1 rfl (lS1 rfl (lS1 rfl (lS1 rfl lS0)))))) (jn215 M209 hI209 hJ212 hFm209 hFl204209 (fun g => by rw [((fj209 63 8 rfl).trans (fj198 63 8 rfl))]; exact i69 (by omega)))
                              · have hJ213 : Fr gS_180_j297 M209 M209 := Fr.refl
                                refine s_aload_n kx_180_300 rfl ?_
                                refine s_aload_n kx_180_301 rfl ?_
                                refine r_getR (k := 63) (f := 0) (k2 := 64) kx_180_302 kp_180_7 (tk_63 hT) kf_12_0 (by decide) (rq_63_0 hI209) ?_
                                refine s_iload_n kx_180_305 rfl ?_
                                refine r_aldK (k := 64) kx_180_306 (tk_64 hT) ⟨by omega, by omega⟩ ((fj209 64 _ rfl).trans ((fj198 64 _ rfl).trans v131e)) ?_
                                refine r_put (k := 63) (f := 8) kx_180_307 kp_180_36 (tk_63 hT) kf_12_8 rfl (by decide) (by decide) hI209 ru_63_8 (fun M214 hI214 u214 => ?_)
                                have hFm214 := hFm209.up u214 rfl
                                have hFl204214 := hFl204209.up u214 rfl
                                have hFj297214 := hJ213.up u214 rfl
                                exact cP.wk (lS1 rfl (lS1 rfl (lS1 rfl (lS1 rfl (lS1 rfl (lS1 rfl lS0)))))) (jn215 M214 hI214 hFj297214 hFm214 hFl204214 (fun g => by rw [u214.1, ← hSc]; congr 1; omega))
                            refine s_icmp_ge (t := 293) kx_180_267 (by decide) (fun hc200 => ?_) (fun hc200 => ?_)
                            · have hJ201 : Fr gS_180_j267 M198 M198 := Fr.refl
                              exact cP.wk (lS1 rfl (lS1 rfl (lS1 rfl (lS1 rfl (lS1 rfl (lS1 rfl lS0)))))) (jn208 M198 hI198 hJ201 hFm198 hFl204198 (by rw [(fj198 63 7 rfl)]; exact WdT.step i68 (by omega) hLt (Or.inr ⟨by omega, rfl⟩)))
                            · have hJ202 : Fr gS_180_j267 M198 M198 := Fr.refl
                              refine s_iload_n kx_180_270 rfl ?_
                              refine s_if_eq (t := 293) kx_180_271 (by decide) (fun hc203 => absurd hc203 (by omega)) (fun hc203 => ?_)
                              refine s_aload_n kx_180_274 rfl ?_
                              refine s_aload_n kx_180_275 rfl ?_
                              refine r_getU (k := 63) (f := 7) kx_180_276 kp_180_32 (tk_63 hT) kf_12_7 (fun _ => rfl) (fun v204 v204e => ?_)
                              refine s_bipush (v := 8) kx_180_279 (by decide) ?_
                              refine s_lshl (z := (owShl v204 8)) kx_180_281 rfl ?_
                              refine s_aload_n kx_180_282 rfl ?_
                              refine r_getR (k := 63) (f := 0) (k2 := 64) kx_180_283 kp_180_7 (tk_63 hT) kf_12_0 (by decide) (rq_63_0 hI198) ?_
                              refine s_iload_n kx_180_286 rfl ?_
                              refine r_aldK (k := 64) kx_180_287 (tk_64 hT) ⟨by omega, by omega⟩ ((fj198 64 _ rfl).trans v131e) ?_
                              refine s_i2l kx_180_288 ?_
                              refine s_lor (z := (owLor (owShl v204 8) v131)) kx_180_289 rfl ?_
                              refine r_put (k := 63) (f := 7) kx_180_290 kp_180_32 (tk_63 hT) kf_12_7 rfl (by decide) (by decide) hI198 ru_63_7 (fun M207 hI207 u207 => ?_)
                              have hFm207 := hFm198.up u207 rfl
                              have hFl204207 := hFl204198.up u207 rfl
                              have hFj267207 := hJ202.up u207 rfl
                              exact cP.wk (lS1 rfl (lS1 rfl (lS1 rfl (lS1 rfl (lS1 rfl (lS1 rfl lS0)))))) (jn208 M207 hI207 hFj267207 hFm207 hFl204207 (by rw [u207.1]; exact WdT.step (x := v204) (by rw [← v204e]; rw [(fj198 63 7 rfl)]; exact i68) (by omega) hLt (Or.inl ⟨by omega, by rw [hSc]⟩)))
                          refine s_icmp_ne (t := 263) kx_180_247 (by decide) (fun hc191 => ?_) (fun hc191 => ?_)
                          · have hJ192 : Fr gS_180_j247 M56 M56 := Fr.refl
                            exact cP.wk (lS1 rfl (lS1 rfl (lS1 rfl (lS1 rfl (lS1 rfl (lS1 rfl lS0)))))) (jn197 M56 hI56 hJ192 hFm56 fl56 (LxT.step i67 hB0 (by decide) (Or.inr ⟨Or.inl (by omega), rfl⟩)))
                          · have hJ193 : Fr gS_180_j247 M56 M56 := Fr.refl
                            refine s_aload_n kx_180_250 rfl ?_
                            refine r_getI (k := 63) (f := 13) kx_180_251 kp_180_51 (tk_63 hT) kf_12_13 (fun _ => rfl) (rg_63_13 hI56) (fun v194 v194e v194a v194b => ?_)
                            refine s_iconst (v := (-1)) kx_180_254 (by decide) ?_
                            refine s_icmp_ne (t := 263) kx_180_255 (by decide) (fun hc195 => ?_) (fun hc195 => ?_)
                            · exact cP.wk (lS1 rfl (lS1 rfl (lS1 rfl (lS1 rfl (lS1 rfl (lS1 rfl lS0)))))) (jn197 M56 hI56 hJ193 hFm56 fl56 (LxT.step i67 hB0 (by decide) (Or.inr ⟨Or.inr (by omega), rfl⟩)))
                            · refine s_aload_n kx_180_258 rfl ?_
                              refine s_iload_n kx_180_259 rfl ?_
                              refine r_put (k := 63) (f := 13) kx_180_260 kp_180_51 (tk_63 hT) kf_12_13 rfl (by decide) (by decide) hI56 (ru_63_13 (by omega) (by omega)) (fun M196 hI196 u196 => ?_)
                              have hFm196 := hFm56.up u196 rfl
                              have hFl204196 := fl56.up u196 rfl
                              have hFj247196 := hJ193.up u196 rfl
                              exact cP.wk (lS1 rfl (lS1 rfl (lS1 rfl (lS1 rfl (lS1 rfl (lS1 rfl lS0)))))) (jn197 M196 hI196 hFj247196 hFm196 hFl204196 (by rw [u196.1]; exact LxT.step i67 hB0 (by decide) (Or.inl ⟨by omega, by omega, rfl⟩)))
                  exact cP.wk (lS1 rfl (lS1 rfl (lS1 rfl (lS1 rfl (lS1 rfl (lS1 rfl lS0)))))) (key57 _ x1_2 0 M52 hI52 hFm52 Fr.refl (by omega) (by omega) (by omega) (by omega) (by omega) (by omega) (by omega) rfl (LxT.begin (by rw [((u52.2 63 13 (by omega)).trans ((u49.2 63 13 (by omega)).trans ((u48.2 63 13 (by omega)).trans ((u47.2 63 13 (by omega)).trans (u46.2 63 13 (by omega))))))]; exact a45) (by decide)) (by rw [((u52.2 63 7 (by omega)).trans ((u49.2 63 7 (by omega)).trans ((u48.2 63 7 (by omega)).trans u47.1))), Int.sub_self]; exact ⟨fun _ => rfl, fun g => absurd g (by decide)⟩) (fun g => absurd g (by omega)) (Nat.lt_succ_self _))
                refine s_if_le (t := 135) kx_180_99 (by decide) (fun hc33 => ?_) (fun hc33 => ?_)
                · have hJ34 : Fr gS_180_j99 M28 M28 := Fr.refl
                  exact cP.wk (lS1 rfl (lS1 rfl (lS1 rfl (lS1 rfl lS0)))) (jn43 M28 hI28 hJ34 hFm28 (Or.inr ⟨fun g => by have g1 := g.1; have g2 := g.2; omega, u28.1⟩))
                · have hJ35 : Fr gS_180_j99 M28 M28 := Fr.refl
                  refine s_aload_n kx_180_102 rfl ?_
                  refine r_getR (k := 63) (f := 0) (k2 := 64) kx_180_103 kp_180_7 (tk_63 hT) kf_12_0 (by decide) (rq_63_0 hI28) ?_
                  refine s_iload_n kx_180_106 rfl ?_
                  refine s_iconst (v := 1) kx_180_107 (by decide) ?_
                  refine r_sub kx_180_108 ⟨by omega, by omega⟩ ?_
                  refine r_ald (k := 64) kx_180_109 (tk_64 hT) ⟨by omega, by omega⟩ (rg_64 hI28) (fun v36 v36e v36a v36b => ?_)
                  have v36s : s ((x1_2 - 1)).toNat = v36 := (congrFun hs ((x1_2 - 1)).toNat).symm.trans ((((u28.2 64 _ (by omega)).trans ((u27.2 64 _ (by omega)).trans ((u26.2 64 _ (by omega)).trans (u25.2 64 _ (by omega)))))).symm.trans v36e)
                  refine s_callS2 (s1 := 1) (s2 := 0) (as := [(0, v36)]) (rest := []) kx_180_110 kp_180_267 rfl kcl_177 rfl rfl (by decide) (m_177 (d := d) (c := v36) hT hI28) (kF (fun v37 v37p => ?_))
                  refine s_if_ne (t := 130) kx_180_113 (by decide) (fun hc38 => ?_) (fun hc38 => ?_)
                  · replace v37p := v37p.resolve_right (by omega)
                    refine s_aload_n kx_180_130 rfl ?_
                    refine s_iload_n kx_180_131 rfl ?_
                    refine r_put (k := 63) (f := 13) kx_180_132 kp_180_51 (tk_63 hT) kf_12_13 rfl (by decide) (by decide) hI28 (ru_63_13 (by omega) (by omega)) (fun M39 hI39 u39 => ?_)
                    have hFm39 := hFm28.up u39 rfl
                    have hFj9939 := hJ35.up u39 rfl
                    exact cP.wk (lS1 rfl (lS1 rfl (lS1 rfl (lS1 rfl lS0)))) (jn43 M39 hI39 hFj9939 hFm39 (Or.inl ⟨⟨by omega, by omega⟩, u39.1⟩))
                  · replace v37p := v37p.resolve_left (by omega)
                    refine s_aload_n kx_180_116 rfl ?_
                    refine r_getR (k := 63) (f := 0) (k2 := 64) kx_180_117 kp_180_7 (tk_63 hT) kf_12_0 (by decide) (rq_63_0 hI28) ?_
                    refine s_iload_n kx_180_120 rfl ?_
                    refine s_iconst (v := 1) kx_180_121 (by decide) ?_
                    refine r_sub kx_180_122 ⟨by omega, by omega⟩ ?_
                    refine r_aldK (k := 64) kx_180_123 (tk_64 hT) ⟨by omega, by omega⟩ v36e ?_
                    refine s_callS2 (s1 := 1) (s2 := 0) (as := [(0, v36)]) (rest := []) kx_180_124 kp_180_271 rfl kcl_178 rfl rfl (by decide) (m_178 (d := d) (c := v36) hT hI28) (kF (fun v40 v40p => ?_))
                    refine s_if_eq (t := 135) kx_180_127 (by decide) (fun hc41 => ?_) (fun hc41 => ?_)
                    · replace v40p := v40p.resolve_left (by omega)
                      exact cP.wk (lS1 rfl (lS1 rfl (lS1 rfl (lS1 rfl lS0)))) (jn43 M28 hI28 hJ35 hFm28 (Or.inr ⟨fun g => by have g1 := g.1; have g2 := g.2; omega, u28.1⟩))
                    · replace v40p := v40p.resolve_right (by omega)
                      refine s_aload_n kx_180_130 rfl ?_
                      refine s_iload_n kx_180_131 rfl ?_
                      refine r_put (k := 63) (f := 13) kx_180_132 kp_180_51 (tk_63 hT) kf_12_13 rfl (by decide) (by decide) hI28 (ru_63_13 (by omega) (by omega)) (fun M42 hI42 u42 => ?_)
                      have hFm42 := hFm28.up u42 rfl
                      have hFj9942 := hJ35.up u42 rfl
                      exact cP.wk (lS1 rfl (lS1 rfl (lS1 rfl (lS1 rfl lS0)))) (jn43 M42 hI42 hFj9942 hFm42 (Or.inl ⟨⟨by omega, by omega⟩, u42.1⟩))
              · replace v30p := v30p.resolve_left (by omega)
                refine s_iload_n kx_180_94 rfl ?_
                refine s_if_eq (t := 135) kx_180_95 (by decide) (fun hc223 => ?_) (fun hc223 => ?_)
                · replace v31p := v31p.resolve_left (by omega)
                  refine s_aload_n kx_180_135 rfl ?_
                  refine s_iconst (v := 0) kx_180_136 (by decide) ?_
                  refine r_put (k := 63) (f := 6) kx_180_137 kp_180_29 (tk_63 hT) kf_12_6 rfl (by decide) (by decide) hI28 ru_63_6 (fun M224 hI224 u224 => ?_)
                  have hFm224 := hFm28.up u224 rfl
                  refine s_aload_n kx_180_140 rfl ?_
                  refine s_lconst (v := 0) kx_180_141 (by decide) ?_
                  refine r_put (k := 63) (f := 7) kx_180_142 kp_180_32 (tk_63 hT) kf_12_7 rfl (by decide) (by decide) hI224 ru_63_7 (fun M225 hI225 u225 => ?_)
                  have hFm225 := hFm224.up u225 rfl
                  refine s_aload_n kx_180_145 rfl ?_
                  refine s_iconst (v := 3) kx_180_146 (by decide) ?_
                  refine r_put (k := 63) (f := 3) kx_180_147 kp_180_20 (tk_63 hT) kf_12_3 rfl (by decide) (by decide) hI225 (ru_63_3 (by omega) (by omega)) (fun M226 hI226 u226 => ?_)
                  have hFm226 := hFm225.up u226 rfl
                  refine s_aload_n kx_180_150 rfl ?_
                  refine s_iload_n kx_180_151 rfl ?_
                  refine s_iconst (v := 1) kx_180_152 (by decide) ?_
                  refine r_add kx_180_153 ⟨by omega, by omega⟩ ?_
                  refine r_put (k := 63) (f := 5) kx_180_154 kp_180_26 (tk_63 hT) kf_12_5 rfl (by decide) (by decide) hI226 (ru_63_5 (by omega) (by omega)) (fun M227 hI227 u227 => ?_)
                  have hFm227 := hFm226.up u227 rfl
                  refine s_iload_n kx_180_157 rfl ?_
                  refine s_if_ne (t := 176) kx_180_158 (by decide) (fun hc228 => absurd hc228 (by omega)) (fun hc228 => ?_)
                  refine s_iload_n kx_180_161 rfl ?_
                  refine s_if_ne (t := 176) kx_180_162 (by decide) (fun hc229 => absurd hc229 (by omega)) (fun hc229 => ?_)
                  have hcb : s (owB s n p).toNat = v22 := by rw [← hB]; exact v22s
                  refine s_aload_n kx_180_165 rfl ?_
                  refine s_aload_n kx_180_166 rfl ?_
                  refine r_getR (k := 63) (f := 0) (k2 := 64) kx_180_167 kp_180_7 (tk_63 hT) kf_12_0 (by decide) (rq_63_0 hI227) ?_
                  refine s_iload_n kx_180_170 rfl ?_
                  refine r_aldK (k := 64) kx_180_171 (tk_64 hT) ⟨by omega, by omega⟩ ((u227.2 64 _ (by omega)).trans ((u226.2 64 _ (by omega)).trans ((u225.2 64 _ (by omega)).trans ((u224.2 64 _ (by omega)).trans ((u28.2 64 _ (by omega)).trans ((u27.2 64 _ (by omega)).trans ((u26.2 64 _ (by omega)).trans ((u25.2 64 _ (by omega)).trans v22e)))))))) ?_
                  refine r_put (k := 63) (f := 6) kx_180_172 kp_180_29 (tk_63 hT) kf_12_6 rfl (by decide) (by decide) hI227 ru_63_6 (fun M230 hI230 u230 => ?_)
                  have hFm230 := hFm227.up u230 rfl
                  have hk231 : M230 63 4 = x1_2 := ((u230.2 63 4 (by omega)).trans ((u227.2 63 4 (by omega)).trans ((u226.2 63 4 (by omega)).trans ((u225.2 63 4 (by omega)).trans ((u224.2 63 4 (by omega)).trans ((u28.2 63 4 (by omega)).trans ((u27.2 63 4 (by omega)).trans ((u26.2 63 4 (by omega)).trans u25.1))))))))
                  have hk232 : M230 63 5 = (x1_2 + 1) := ((u230.2 63 5 (by omega)).trans u227.1)
                  have hk233 : M230 63 13 = (-1) := ((u230.2 63 13 (by omega)).trans ((u227.2 63 13 (by omega)).trans ((u226.2 63 13 (by omega)).trans ((u225.2 63 13 (by omega)).trans ((u224.2 63 13 (by omega)).trans u28.1)))))
                  have hk234 : M230 63 3 = 3 := ((u230.2 63 3 (by omega)).trans ((u227.2 63 3 (by omega)).trans u226.1))
                  exact s_vret kx_180_175 kq_180 ⟨_, rfl, rfl, hI230, hFm230, ⟨LyA.eS ((((u230.2 63 10 (by omega)).trans ((u227.2 63 10 (by omega)).trans ((u226.2 63 10 (by omega)).trans ((u225.2 63 10 (by omega)).trans ((u224.2 63 10 (by omega)).trans ((u28.2 63 10 (by omega)).trans ((u27.2 63 10 (by omega)).trans ((u26.2 63 10 (by omega)).trans (u25.2 63 10 (by omega))))))))))).trans h10) ((funext fun i => ((u230.2 64 i (by omega)).trans ((u227.2 64 i (by omega)).trans ((u226.2 64 i (by omega)).trans ((u225.2 64 i (by omega)).trans ((u224.2 64 i (by omega)).trans ((u28.2 64 i (by omega)).trans ((u27.2 64 i (by omega)).trans ((u26.2 64 i (by omega)).trans (u25.2 64 i (by omega))))))))))).trans hs) ((((u230.2 63 2 (by omega)).trans ((u227.2 63 2 (by omega)).trans ((u226.2 63 2 (by omega)).trans ((u225.2 63 2 (by omega)).trans ((u224.2 63 2 (by omega)).trans ((u28.2 63 2 (by omega)).trans ((u27.2 63 2 (by omega)).trans ((u26.2 63 2 (by omega)).trans (u25.2 63 2 (by omega))))))))))).trans h2) h0 hpn (by omega) (by omega) (by omega) hcb (by omega) (by omega) ((u230.2 63 3 (by omega)).trans ((u227.2 63 3 (by omega)).trans u226.1)) u230.1 ((u230.2 63 13 (by omega)).trans ((u227.2 63 13 (by omega)).trans ((u226.2 63 13 (by omega)).trans ((u225.2 63 13 (by omega)).trans ((u224.2 63 13 (by omega)).trans u28.1))))), by omega, by omega, by omega⟩⟩
                · replace v31p := v31p.resolve_right (by omega)
                  refine s_iload_n kx_180_98 rfl ?_
                  have jn245 : ∀ M246 : cM, Rng M246 → Fr gS_180_j99 M28 M246 → Fr gS_180_m M M246 → ((owAd s x1_2 ∧ M246 63 13 = x1_2) ∨ (¬ owAd s x1_2 ∧ M246 63 13 = -1)) → cP k_P xs Ln (d + 1) 180 135 [(0, rf 63), (1, (0, x1_2)), (2, (0, v30)), (3, (0, v31))] [] (T, M246) (qV T M gS_180_m (fun M1 => LyA M1 s n p ∧ M 63 5 ≤ M1 63 4 ∧ M1 63 4 ≤ M1 63 5 ∧ (M1 63 3 = 0 ∨ M1 63 4 + 1 ≤ M1 63 5))) := by
                    intro M246 hI246 fj246 hFm246 a247
                    refine s_aload_n kx_180_135 rfl ?_
                    refine s_iconst (v := 0) kx_180_136 (by decide) ?_
                    refine r_put (k := 63) (f := 6) kx_180_137 kp_180_29 (tk_63 hT) kf_12_6 rfl (by decide) (by decide) hI246 ru_63_6 (fun M248 hI248 u248 => ?_)
                    have hFm248 := hFm246.up u248 rfl
                    refine s_aload_n kx_180_140 rfl ?_
                    refine s_lconst (v := 0) kx_180_141 (by decide) ?_
                    refine r_put (k := 63) (f := 7) kx_180_142 kp_180_32 (tk_63 hT) kf_12_7 rfl (by decide) (by decide) hI248 ru_63_7 (fun M249 hI249 u249 => ?_)
                    have hFm249 := hFm248.up u249 rfl
                    refine s_aload_n kx_180_145 rfl ?_
                    refine s_iconst (v := 3) kx_180_146 (by decide) ?_
                    refine r_put (k := 63) (f := 3) kx_180_147 kp_180_20 (tk_63 hT) kf_12_3 rfl (by decide) (by decide) hI249 (ru_63_3 (by omega) (by omega)) (fun M250 hI250 u250 => ?_)
                    have hFm250 := hFm249.up u250 rfl
                    refine s_aload_n kx_180_150 rfl ?_
                    refine s_iload_n kx_180_151 rfl ?_
                    refine s_iconst (v := 1) kx_180_152 (by decide) ?_
                    refine r_add kx_180_153 ⟨by omega, by omega⟩ ?_
                    refine r_put (k := 63) (f := 5) kx_180_154 kp_180_26 (tk_63 hT) kf_12_5 rfl (by decide) (by decide) hI250 (ru_63_5 (by omega) (by omega)) (fun M251 hI251 u251 => ?_)
                    have hFm251 := hFm250.up u251 rfl
                    refine s_iload_n kx_180_157 rfl ?_
                    refine s_if_ne (t := 176) kx_180_158 (by decide) (fun hc252 => absurd hc252 (by omega)) (fun hc252 => ?_)
                    refine s_iload_n kx_180_161 rfl ?_
                    refine s_if_ne (t := 176) kx_180_162 (by decide) (fun hc253 => ?_) (fun hc253 => absurd hc253 (by omega))
                    refine s_aload_n kx_180_176 rfl ?_
                    refine s_iload_n kx_180_177 rfl ?_
                    refine s_if_eq (t := 185) kx_180_178 (by decide) (fun hc254 => ?_) (fun hc254 => absurd hc254 (by omega))
                    refine s_iconst (v := 2) kx_180_185 (by decide) ?_
                    have hcb : s (owB s n p).toNat = v22 := by rw [← hB]; exact v22s
                    refine r_put (k := 63) (f := 3) kx_180_186 kp_180_20 (tk_63 hT) kf_12_3 rfl (by decide) (by decide) hI251 (ru_63_3 (by omega) (by omega)) (fun M255 hI255 u255 => ?_)
                    have hFm255 := hFm251.up u255 rfl
                    refine s_iload_n kx_180_189 rfl ?_
                    refine s_if_eq (t := 198) kx_180_190 (by decide) (fun hc256 => ?_) (fun hc256 => absurd hc256 (by omega))
                    refine s_iconst (v := 4) kx_180_198 (by decide) ?_
                    refine s_istore kx_180_199 km_180_4 rfl ?_
                    refine s_iconst (v := 0) kx_180_201 (by decide) ?_
                    refine s_istore kx_180_202 km_180_5 rfl ?_
                    have key260 : ∀ n261 : Nat, ∀ (x1_257 x5_258 : Int), ∀ M259 : cM, Rng M259 → Fr gS_180_m M M259 → Fr gS_180_l204 M255 M259 → (0 ≤ x1_257) → (x1_257 ≤ 1600) → (0 ≤ x5_258) → (x5_258 ≤ 1600) → (x1_2 ≤ x1_257) → (x5_258 = x1_257 - x1_2) → (x1_257 ≤ n) → (owEn s n x1_257 = owEn s n x1_2) → (LxT (M259 63 13) (owAd s x1_2) x1_2 x1_257 4) → (VaT (M259 63 6) (owS s x1_2) (x1_257 - x1_2)) → (0 ≤ x1_257) → (2147483647 - x5_258).toNat < n261 → cP k_P xs Ln (d + 1) 180 204 [(0, rf 63), (1, (0, x1_257)), (2, (0, v30)), (3, (0, v31)), (4, (0, 4)), (5, (0, x5_258))] [] (T, M259) (qV T M gS_180_m (fun M1 => LyA M1 s n p ∧ M 63 5 ≤ M1 63 4 ∧ M1 63 4 ≤ M1 63 5 ∧ (M1 63 3 = 0 ∨ M1 63 4 + 1 ≤ M1 63 5))) := by
                      intro n261
                      induction n261 with
                      | zero => intro x1_257 x5_258 M259 hI259 hFm259 fl259 i262 i263 i264 i265 i266 i267 i268 i269 i270 i271 i272 hm273; exact absurd hm273 (Nat.not_lt_zero _)
                      | succ n261 ih274 =>
                        intro x1_257 x5_258 M259 hI259 hFm259 fl259 i262 i263 i264 i265 i266 i267 i268 i269 i270 i271 i272 hm273
                        refine s_iload_n kx_180_204 rfl ?_
                        refine s_aload_n kx_180_205 rfl ?_
                        refine r_getK (k := 63) (f := 2) kx_180_206 kp_180_17 (tk_63 hT) kf_12_2 (fun _ => rfl) ((fl259 63 2 rfl).trans ((u255.2 63 2 (by omega)).trans ((u251.2 63 2 (by omega)).trans ((u250.2 63 2 (by omega)).trans ((u249.2 63 2 (by omega)).trans ((u248.2 63 2 (by omega)).trans ((fj246 63 2 rfl).trans ((u28.2 63 2 (by omega)).trans ((u27.2 63 2 (by omega)).trans ((u26.2 63 2 (by omega)).trans ((u25.2 63 2 (by omega)).trans v11e))))))))))) ?_
                        refine s_icmp_ge (t := 351) kx_180_209 (by decide) (fun hc275 => ?_) (fun hc275 => ?_)
                        · have hE : owEn s n x1_2 = x1_257 := owEn_stop i269 (Or.inl (by omega))
                          have hei := owEn_in (s := s) (n := n) (b := x1_2) (by omega) (by rw [hB, hcb]; exact ⟨by omega, by omega⟩)
                          have hLX := i270
                          have hVA := i271
                          refine s_aload_n kx_180_351 rfl ?_
                          refine s_iload_n kx_180_352 rfl ?_
                          refine r_put (k := 63) (f := 5) kx_180_353 kp_180_26 (tk_63 hT) kf_12_5 rfl (by decide) (by decide) hI259 (ru_63_5 (by omega) (by omega)) (fun M276 hI276 u276 => ?_)
                          have hFm276 := hFm259.up u276 rfl
                          refine s_iload_n kx_180_356 rfl ?_
                          refine s_if_eq (t := 411) kx_180_357 (by decide) (fun hc277 => ?_) (fun hc277 => absurd hc277 (by omega))
                          refine s_iload_n kx_180_411 rfl ?_
                          refine s_if_eq (t := 452) kx_180_412 (by decide) (fun hc278 => ?_) (fun hc278 => absurd hc278 (by omega))
                          have hk279 : M276 63 4 = x1_2 := ((u276.2 63 4 (by omega)).trans ((fl259 63 4 rfl).trans ((u255.2 63 4 (by omega)).trans ((u251.2 63 4 (by omega)).trans ((u250.2 63 4 (by omega)).trans ((u249.2 63 4 (by omega)).trans ((u248.2 63 4 (by omega)).trans ((fj246 63 4 rfl).trans ((u28.2 63 4 (by omega)).trans ((u27.2 63 4 (by omega)).trans ((u26.2 63 4 (by omega)).trans u25.1)))))))))))
                          have hk280 : M276 63 5 = x1_257 := u276.1
                          have hk281 : M276 63 3 = 2 := ((u276.2 63 3 (by omega)).trans ((fl259 63 3 rfl).trans u255.1))
                          exact s_vret kx_180_452 kq_180 ⟨_, rfl, rfl, hI276, hFm276, ⟨LyA.eD ((((u276.2 63 10 (by omega)).trans ((fl259 63 10 rfl).trans ((u255.2 63 10 (by omega)).trans ((u251.2 63 10 (by omega)).trans ((u250.2 63 10 (by omega)).trans ((u249.2 63 10 (by omega)).trans ((u248.2 63 10 (by omega)).trans ((fj246 63 10 rfl).trans ((u28.2 63 10 (by omega)).trans ((u27.2 63 10 (by omega)).trans ((u26.2 63 10 (by omega)).trans (u25.2 63 10 (by omega)))))))))))))).trans h10) ((funext fun i => ((u276.2 64 i (by omega)).trans ((fl259 64 i rfl).trans ((u255.2 64 i (by omega)).trans ((u251.2 64 i (by omega)).trans ((u250.2 64 i (by omega)).trans ((u249.2 64 i (by omega)).trans ((u248.2 64 i (by omega)).trans ((fj246 64 i rfl).trans ((u28.2 64 i (by omega)).trans ((u27.2 64 i (by omega)).trans ((u26.2 64 i (by omega)).trans (u25.2 64 i (by omega)))))))))))))).trans hs) ((((u276.2 63 2 (by omega)).trans ((fl259 63 2 rfl).trans ((u255.2 63 2 (by omega)).trans ((u251.2 63 2 (by omega)).trans ((u250.2 63 2 (by omega)).trans ((u249.2 63 2 (by omega)).trans ((u248.2 63 2 (by omega)).trans ((fj246 63 2 rfl).trans ((u28.2 63 2 (by omega)).trans ((u27.2 63 2 (by omega)).trans ((u26.2 63 2 (by omega)).trans (u25.2 63 2 (by omega)))))))))))))).trans h2) h0 hpn (by omega) (by rw [← hB, hE]; exact u276.1) (by omega) (by rw [hcb]; omega) (by rw [hcb]; exact ⟨by omega, by omega⟩) (by omega) (by rw [← hB, (u276.2 63 13 (by omega)), (u276.2 63 6 (by omega)), hE]; exact lyD1 hLX (fun g => hVA.1 (by omega))), by omega, by omega, by omega⟩⟩
                        · refine s_iload_n kx_180_212 rfl ?_
                          refine s_if_eq (t := 231) kx_180_213 (by decide) (fun hc282 => ?_) (fun hc282 => absurd hc282 (by omega))
                          refine s_aload_n kx_180_231 rfl ?_
                          refine r_getR (k := 63) (f := 0) (k2 := 64) kx_180_232 kp_180_7 (tk_63 hT) kf_12_0 (by decide) (rq_63_0 hI259) ?_
                          refine s_iload_n kx_180_235 rfl ?_
                          refine r_ald (k := 64) kx_180_236 (tk_64 hT) ⟨by omega, by omega⟩ (rg_64 hI259) (fun v283 v283e v283a v283b => ?_)
                          have v283s : s (x1_257).toNat = v283 := (congrFun hs (x1_257).toNat).symm.trans ((((fl259 64 _ rfl).trans ((u255.2 64 _ (by omega)).trans ((u251.2 64 _ (by omega)).trans ((u250.2 64 _ (by omega)).trans ((u249.2 64 _ (by omega)).trans ((u248.2 64 _ (by omega)).trans ((fj246 64 _ rfl).trans ((u28.2 64 _ (by omega)).trans ((u27.2 64 _ (by omega)).trans ((u26.2 64 _ (by omega)).trans (u25.2 64 _ (by omega))))))))))))).symm.trans v283e)
                          refine s_callS2 (s1 := 1) (s2 := 0) (as := [(0, v283)]) (rest := []) kx_180_237 kp_180_271 rfl kcl_178 rfl rfl (by decide) (m_178 (d := d) (c := v283) hT hI259) (kF (fun v284 v284p => ?_))
                          refine s_if_eq (t := 351) kx_180_240 (by decide) (fun hc285 => ?_) (fun hc285 => ?_)
                          · replace v284p := v284p.resolve_left (by omega)
                            have hE : owEn s n x1_2 = x1_257 := owEn_stop i269 (Or.inr (by rw [v283s]; omega))
                            have hei := owEn_in (s := s) (n := n) (b := x1_2) (by omega) (by rw [hB, hcb]; exact ⟨by omega, by omega⟩)
                            have hLX := i270
                            have hVA := i271
                            refine s_aload_n kx_180_351 rfl ?_
                            refine s_iload_n kx_180_352 rfl ?_
                            refine r_put (k := 63) (f := 5) kx_180_353 kp_180_26 (tk_63 hT) kf_12_5 rfl (by decide) (by decide) hI259 (ru_63_5 (by omega) (by omega)) (fun M286 hI286 u286 => ?_)
                            have hFm286 := hFm259.up u286 rfl
                            refine s_iload_n kx_180_356 rfl ?_
                            refine s_if_eq (t := 411) kx_180_357 (by decide) (fun hc287 => ?_) (fun hc287 => absurd hc287 (by omega))
                            refine s_iload_n kx_180_411 rfl ?_
                            refine s_if_eq (t := 452) kx_180_412 (by decide) (fun hc288 => ?_) (fun hc288 => absurd hc288 (by omega))
                            have hk289 : M286 63 4 = x1_2 := ((u286.2 63 4 (by omega)).trans ((fl259 63 4 rfl).trans ((u255.2 63 4 (by omega)).trans ((u251.2 63 4 (by omega)).trans ((u250.2 63 4 (by omega)).trans ((u249.2 63 4 (by omega)).trans ((u248.2 63 4 (by omega)).trans ((fj246 63 4 rfl).trans ((u28.2 63 4 (by omega)).trans ((u27.2 63 4 (by omega)).trans ((u26.2 63 4 (by omega)).trans u25.1)))))))))))
                            have hk290 : M286 63 5 = x1_257 := u286.1
                            have hk291 : M286 63 3 = 2 := ((u286.2 63 3 (by omega)).trans ((fl259 63 3 rfl).trans u255.1))
                            exact s_vret kx_180_452 kq_180 ⟨_, rfl, rfl, hI286, hFm286, ⟨LyA.eD ((((u286.2 63 10 (by omega)).trans ((fl259 63 10 rfl).trans ((u255.2 63 10 (by omega)).trans ((u251.2 63 10 (by omega)).trans ((u250.2 63 10 (by omega)).trans ((u249.2 63 10 (by omega)).trans ((u248.2 63 10 (by omega)).trans ((fj246 63 10 rfl).trans ((u28.2 63 10 (by omega)).trans ((u27.2 63 10 (by omega)).trans ((u26.2 63 10 (by omega)).trans (u25.2 63 10 (by omega)))))))))))))).trans h10) ((funext fun i => ((u286.2 64 i (by omega)).trans ((fl259 64 i rfl).trans ((u255.2 64 i (by omega)).trans ((u251.2 64 i (by omega)).trans ((u250.2 64 i (by omega)).trans ((u249.2 64 i (by omega)).trans ((u248.2 64 i (by omega)).trans ((fj246 64 i rfl).trans ((u28.2 64 i (by omega)).trans ((u27.2 64 i (by omega)).trans ((u26.2 64 i (by omega)).trans (u25.2 64 i (by omega)))))))))))))).trans hs) ((((u286.2 63 2 (by omega)).trans ((fl259 63 2 rfl).trans ((u255.2 63 2 (by omega)).trans ((u251.2 63 2 (by omega)).trans ((u250.2 63 2 (by omega)).trans ((u249.2 63 2 (by omega)).trans ((u248.2 63 2 (by omega)).trans ((fj246 63 2 rfl).trans ((u28.2 63 2 (by omega)).trans ((u27.2 63 2 (by omega)).trans ((u26.2 63 2 (by omega)).trans (u25.2 63 2 (by omega)))))))))))))).trans h2) h0 hpn (by omega) (by rw [← hB, hE]; exact u286.1) (by omega) (by rw [hcb]; omega) (by rw [hcb]; exact ⟨by omega, by omega⟩) (by omega) (by rw [← hB, (u286.2 63 13 (by omega)), (u286.2 63 6 (by omega)), hE]; exact lyD1 hLX (fun g => hVA.1 (by omega))), by omega, by omega, by omega⟩⟩
                          · replace v284p := v284p.resolve_right (by omega)
                            have hEs := owEn_step i269 (by omega) v283s (by omega) (by omega)
                            have hSc : owS s x1_2 (x1_257 - x1_2).toNat = v283 := (owS_at (by omega)).trans v283s
                            refine s_iload kx_180_243 rfl ?_
                            refine s_iload kx_180_245 rfl ?_
                            have jn298 : ∀ M299 : cM, Rng M299 → Fr gS_180_j247 M259 M299 → Fr gS_180_m M M299 → Fr gS_180_l204 M255 M299 → (LxT (M299 63 13) (owAd s x1_2) x1_2 (x1_257 + 1) 4) → cP k_P xs Ln (d + 1) 180 263 [(0, rf 63), (1, (0, x1_257)), (2, (0, v30)), (3, (0, v31)), (4, (0, 4)), (5, (0, x5_258))] [] (T, M299) (qV T M gS_180_m (fun M1 => LyA M1 s n p ∧ M 63 5 ≤ M1 63 4 ∧ M1 63 4 ≤ M1 63 5 ∧ (M1 63 3 = 0 ∨ M1 63 4 + 1 ≤ M1 63 5))) := by
                              intro M299 hI299 fj299 hFm299 hFl204299 a300
                              refine s_iload kx_180_263 rfl ?_
                              refine s_bipush (v := 8) kx_180_265 (by decide) ?_
                              have jn305 : cP k_P xs Ln (d + 1) 180 293 [(0, rf 63), (1, (0, x1_257)), (2, (0, v30)), (3, (0, v31)), (4, (0, 4)), (5, (0, x5_258))] [] (T, M299) (qV T M gS_180_m (fun M1 => LyA M1 s n p ∧ M 63 5 ≤ M1 63 4 ∧ M1 63 4 ≤ M1 63 5 ∧ (M1 63 3 = 0 ∨ M1 63 4 + 1 ≤ M1 63 5))) := by
                                refine s_iload kx_180_293 rfl ?_
                                refine s_bipush (v := 8) kx_180_295 (by decide) ?_
                                have jn310 : ∀ M311 : cM, Rng M311 → Fr gS_180_j297 M299 M311 → Fr gS_180_m M M311 → Fr gS_180_l204 M255 M311 → cP k_P xs Ln (d + 1) 180 310 [(0, rf 63), (1, (0, x1_257)), (2, (0, v30)), (3, (0, v31)), (4, (0, 4)), (5, (0, x5_258))] [] (T, M311) (qV T M gS_180_m (fun M1 => LyA M1 s n p ∧ M 63 5 ≤ M1 63 4 ∧ M1 63 4 ≤ M1 63 5 ∧ (M1 63 3 = 0 ∨ M1 63 4 + 1 ≤ M1 63 5))) := by
                                  intro M311 hI311 fj311 hFm311 hFl204311
                                  refine s_iload kx_180_310 rfl ?_
                                  refine s_iload kx_180_312 rfl ?_
                                  have jn318 : ∀ M319 : cM, Rng M319 → Fr gS_180_j314 M311 M319 → Fr gS_180_m M M319 → Fr gS_180_l204 M255 M319 → (VaT (M319 63 6) (owS s x1_2) (x1_257 - x1_2 + 1)) → cP k_P xs Ln (d + 1) 180 342 [(0, rf 63), (1, (0, x1_257)), (2, (0, v30)), (3, (0, v31)), (4, (0, 4)), (5, (0, x5_258))] [] (T, M319) (qV T M gS_180_m (fun M1 => LyA M1 s n p ∧ M 63 5 ≤ M1 63 4 ∧ M1 63 4 ≤ M1 63 5 ∧ (M1 63 3 = 0 ∨ M1 63 4 + 1 ≤ M1 63 5))) := by
                                    intro M319 hI319 fj319 hFm319 hFl204319 a320
                                    refine r_iinc kx_180_342 rfl km_180_5 (by decide) ⟨by omega, by omega⟩ rfl ?_
                                    refine r_iinc kx_180_345 rfl km_180_1 (by decide) ⟨by omega, by omega⟩ rfl ?_
                                    refine s_goto (t := 204) kx_180_348 (by decide) ?_
                                    exact cP.wk (lS1 rfl (lS1 rfl (lS1 rfl (lS1 rfl (lS1 rfl (lS1 rfl lS0)))))) (ih274 (x1_257 + 1) (x5_258 + 1) M319 hI319 hFm319 hFl204319 (by omega) (by omega) (by omega) (by omega) (by omega) (by omega) (by omega) hEs.1 (by rw [((fj319 63 13 rfl).trans (fj311 63 13 rfl))]; exact a300) (by rw [show x1_257 + 1 - x1_2 = x1_257 - x1_2 + 1 by omega]; exact a320) (by omega) (by omega))
                                  refine s_icmp_ge (t := 342) kx_180_314 (by decide) (fun hc312 => ?_) (fun hc312 => ?_)
                                  · have hJ313 : Fr gS_180_j314 M311 M311 := Fr.refl
                                    exact cP.wk (lS1 rfl (lS1 rfl (lS1 rfl (lS1 rfl (lS1 rfl (lS1 rfl lS0)))))) (jn318 M311 hI311 hJ313 hFm311 hFl204311 (by rw [((fj311 63 6 rfl).trans (fj299 63 6 rfl))]; exact VaT.step (c := 0) i271 (by omega) (Or.inr ⟨by omega, rfl⟩)))
                                  · have hJ314 : Fr gS_180_j314 M311 M311 := Fr.refl
                                    refine s_iload_n kx_180_317 rfl ?_
                                    refine s_if_eq (t := 342) kx_180_318 (by decide) (fun hc315 => absurd hc315 (by omega)) (fun hc315 => ?_)
                                    refine s_aload_n kx_180_321 rfl ?_
                                    refine s_bipush (v := 10) kx_180_322 (by decide) ?_
                                    refine s_aload_n kx_180_324 rfl ?_
                                    refine r_getU (k := 63) (f := 6) kx_180_325 kp_180_29 (tk_63 hT) kf_12_6 (fun _ => rfl) (fun v316 v316e => ?_)
                                    have hva : v316 = owPn (owS s x1_2) (x1_257 - x1_2).toNat := (by rw [← v316e]; rw [((fj311 63 6 rfl).trans (fj299 63 6 rfl))]; exact i271.1 (by omega))
                                    have hvr := owPn_r (s := s) (n := n) (b := x1_2) (q := x1_257) (by omega) rfl (by omega)
                                    rw [← hva] at hvr
                                    refine r_mul kx_180_328 ⟨by omega, by omega⟩ ?_
                                    refine s_aload_n kx_180_329 rfl ?_
                                    refine r_getR (k := 63) (f := 0) (k2 := 64) kx_180_330 kp_180_7 (tk_63 hT) kf_12_0 (by decide) (rq_63_0 hI311) ?_
                                    refine s_iload_n kx_180_333 rfl ?_
                                    refine r_aldK (k := 64) kx_180_334 (tk_64 hT) ⟨by omega, by omega⟩ ((fj311 64 _ rfl).trans ((fj299 64 _ rfl).trans v283e)) ?_
                                    refine r_add kx_180_335 ⟨by omega, by omega⟩ ?_
                                    refine s_bipush (v := 48) kx_180_336 (by decide) ?_
                                    refine r_sub kx_180_338 ⟨by omega, by omega⟩ ?_
                                    refine r_put (k := 63) (f := 6) kx_180_339 kp_180_29 (tk_63 hT) kf_12_6 rfl (by decide) (by decide) hI311 ru_63_6 (fun M317 hI317 u317 => ?_)
                                    have hFm317 := hFm311.up u317 rfl
                                    have hFl204317 := hFl204311.up u317 rfl
                                    have hFj314317 := hJ314.up u317 rfl
                                    exact cP.wk (lS1 rfl (lS1 rfl (lS1 rfl (lS1 rfl (lS1 rfl (lS1 rfl lS0)))))) (jn318 M317 hI317 hFj314317 hFm317 hFl204317 (by rw [u317.1]; exact VaT.step (c := 0) (x := v316) (by rw [← v316e]; rw [((fj311 63 6 rfl).trans (fj299 63 6 rfl))]; exact i271) (by omega) (Or.inl ⟨by omega, by rw [hSc]⟩)))
                                refine s_icmp_ne (t := 310) kx_180_297 (by decide) (fun hc306 => ?_) (fun hc306 => ?_)
                                · have hJ307 : Fr gS_180_j297 M299 M299 := Fr.refl
                                  exact cP.wk (lS1 rfl (lS1 rfl (lS1 rfl (lS1 rfl (lS1 rfl (lS1 rfl lS0)))))) (jn310 M299 hI299 hJ307 hFm299 hFl204299)
                                · have hJ308 : Fr gS_180_j297 M299 M299 := Fr.refl
                                  refine s_aload_n kx_180_300 rfl ?_
                                  refine s_aload_n kx_180_301 rfl ?_
                                  refine r_getR (k := 63) (f := 0) (k2 := 64) kx_180_302 kp_180_7 (tk_63 hT) kf_12_0 (by decide) (rq_63_0 hI299) ?_
                                  refine s_iload_n kx_180_305 rfl ?_
                                  refine r_aldK (k := 64) kx_180_306 (tk_64 hT) ⟨by omega, by omega⟩ ((fj299 64 _ rfl).trans v283e) ?_
                                  refine r_put (k := 63) (f := 8) kx_180_307 kp_180_36 (tk_63 hT) kf_12_8 rfl (by decide) (by decide) hI299 ru_63_8 (fun M309 hI309 u309 => ?_)
                                  have hFm309 := hFm299.up u309 rfl
                                  have hFl204309 := hFl204299.up u309 rfl
                                  have hFj297309 := hJ308.up u309 rfl
                                  exact cP.wk (lS1 rfl (lS1 rfl (lS1 rfl (lS1 rfl (lS1 rfl (lS1 rfl lS0)))))) (jn310 M309 hI309 hFj297309 hFm309 hFl204309)
                              refine s_icmp_ge (t := 293) kx_180_267 (by decide) (fun hc301 => ?_) (fun hc301 => ?_)
                              · have hJ302 : Fr gS_180_j267 M299 M299 := Fr.refl
                                exact cP.wk (lS1 rfl (lS1 rfl (lS1 rfl (lS1 rfl (lS1 rfl (lS1 rfl lS0)))))) (jn305)
                              · have hJ303 : Fr gS_180_j267 M299 M299 := Fr.refl
                                refine s_iload_n kx_180_270 rfl ?_
                                refine s_if_eq (t := 293) kx_180_271 (by decide) (fun hc304 => ?_) (fun hc304 => absurd hc304 (by omega))
                                exact cP.wk (lS1 rfl (lS1 rfl (lS1 rfl (lS1 rfl (lS1 rfl (lS1 rfl lS0)))))) (jn305)
                            refine s_icmp_ne (t := 263) kx_180_247 (by decide) (fun hc292 => ?_) (fun hc292 => ?_)
                            · have hJ293 : Fr gS_180_j247 M259 M259 := Fr.refl
                              exact cP.wk (lS1 rfl (lS1 rfl (lS1 rfl (lS1 rfl (lS1 rfl (lS1 rfl lS0)))))) (jn298 M259 hI259 hJ293 hFm259 fl259 (LxT.step i270 hB0 (by decide) (Or.inr ⟨Or.inl (by omega), rfl⟩)))
                            · have hJ294 : Fr gS_180_j247 M259 M259 := Fr.refl
                              refine s_aload_n kx_180_250 rfl ?_
                              refine r_getI (k := 63) (f := 13) kx_180_251 kp_180_51 (tk_63 hT) kf_12_13 (fun _ => rfl) (rg_63_13 hI259) (fun v295 v295e v295a v295b => ?_)
                              refine s_iconst (v := (-1)) kx_180_254 (by decide) ?_
                              refine s_icmp_ne (t := 263) kx_180_255 (by decide) (fun hc296 => ?_) (fun hc296 => ?_)
                              · exact cP.wk (lS1 rfl (lS1 rfl (lS1 rfl (lS1 rfl (lS1 rfl (lS1 rfl lS0)))))) (jn298 M259 hI259 hJ294 hFm259 fl259 (LxT.step i270 hB0 (by decide) (Or.inr ⟨Or.inr (by omega), rfl⟩)))
                              · refine s_aload_n kx_180_258 rfl ?_
                                refine s_iload_n kx_180_259 rfl ?_
                                refine r_put (k := 63) (f := 13) kx_180_260 kp_180_51 (tk_63 hT) kf_12_13 rfl (by decide) (by decide) hI259 (ru_63_13 (by omega) (by omega)) (fun M297 hI297 u297 => ?_)
                                have hFm297 := hFm259.up u297 rfl
                                have hFl204297 := fl259.up u297 rfl
                                have hFj247297 := hJ294.up u297 rfl
                                exact cP.wk (lS1 rfl (lS1 rfl (lS1 rfl (lS1 rfl (lS1 rfl (lS1 rfl lS0)))))) (jn298 M297 hI297 hFj247297 hFm297 hFl204297 (by rw [u297.1]; exact LxT.step i270 hB0 (by decide) (Or.inl ⟨by omega, by omega, rfl⟩)))
                    exact cP.wk (lS1 rfl (lS1 rfl (lS1 rfl (lS1 rfl (lS1 rfl (lS1 rfl lS0)))))) (key260 _ x1_2 0 M255 hI255 hFm255 Fr.refl (by omega) (by omega) (by omega) (by omega) (by omega) (by omega) (by omega) rfl (LxT.begin (by rw [((u255.2 63 13 (by omega)).trans ((u251.2 63 13 (by omega)).trans ((u250.2 63 13 (by omega)).trans ((u249.2 63 13 (by omega)).trans (u248.2 63 13 (by omega))))))]; exact a247) (by decide)) (by rw [((u255.2 63 6 (by omega)).trans ((u251.2 63 6 (by omega)).trans ((u250.2 63 6 (by omega)).trans ((u249.2 63 6 (by omega)).trans u248.1)))), Int.sub_self]; exact ⟨fun _ => rfl, fun g => absurd g (by decide)⟩) (by omega) (Nat.lt_succ_self _))
                  refine s_if_le (t := 135) kx_180_99 (by decide) (fun hc235 => ?_) (fun hc235 => ?_)
                  · have hJ236 : Fr gS_180_j99 M28 M28 := Fr.refl
                    exact cP.wk (lS1 rfl (lS1 rfl (lS1 rfl (lS1 rfl lS0)))) (jn245 M28 hI28 hJ236 hFm28 (Or.inr ⟨fun g => by have g1 := g.1; have g2 := g.2; omega, u28.1⟩))
                  · have hJ237 : Fr gS_180_j99 M28 M28 := Fr.refl
                    refine s_aload_n kx_180_102 rfl ?_
                    refine r_getR (k := 63) (f := 0) (k2 := 64) kx_180_103 kp_180_7 (tk_63 hT) kf_12_0 (by decide) (rq_63_0 hI28) ?_
                    refine s_iload_n kx_180_106 rfl ?_
                    refine s_iconst (v := 1) kx_180_107 (by decide) ?_
                    refine r_sub kx_180_108 ⟨by omega, by omega⟩ ?_
                    refine r_ald (k := 64) kx_180_109 (tk_64 hT) ⟨by omega, by omega⟩ (rg_64 hI28) (fun v238 v238e v238a v238b => ?_)
                    have v238s : s ((x1_2 - 1)).toNat = v238 := (congrFun hs ((x1_2 - 1)).toNat).symm.trans ((((u28.2 64 _ (by omega)).trans ((u27.2 64 _ (by omega)).trans ((u26.2 64 _ (by omega)).trans (u25.2 64 _ (by omega)))))).symm.trans v238e)
                    refine s_callS2 (s1 := 1) (s2 := 0) (as := [(0, v238)]) (rest := []) kx_180_110 kp_180_267 rfl kcl_177 rfl rfl (by decide) (m_177 (d := d) (c := v238) hT hI28) (kF (fun v239 v239p => ?_))
                    refine s_if_ne (t := 130) kx_180_113 (by decide) (fun hc240 => ?_) (fun hc240 => ?_)
                    · replace v239p := v239p.resolve_right (by omega)
                      refine s_aload_n kx_180_130 rfl ?_
                      refine s_iload_n kx_180_131 rfl ?_
                      refine r_put (k := 63) (f := 13) kx_180_132 kp_180_51 (tk_63 hT) kf_12_13 rfl (by decide) (by decide) hI28 (ru_63_13 (by omega) (by omega)) (fun M241 hI241 u241 => ?_)
                      have hFm241 := hFm28.up u241 rfl
                      have hFj99241 := hJ237.up u241 rfl
                      exact cP.wk (lS1 rfl (lS1 rfl (lS1 rfl (lS1 rfl lS0)))) (jn245 M241 hI241 hFj99241 hFm241 (Or.inl ⟨⟨by omega, by omega⟩, u241.1⟩))
                    · replace v239p := v239p.resolve_left (by omega)
                      refine s_aload_n kx_180_116 rfl ?_
                      refine r_getR (k := 63) (f := 0) (k2 := 64) kx_180_117 kp_180_7 (tk_63 hT) kf_12_0 (by decide) (rq_63_0 hI28) ?_
                      refine s_iload_n kx_180_120 rfl ?_
                      refine s_iconst (v := 1) kx_180_121 (by decide) ?_
                      refine r_sub kx_180_122 ⟨by omega, by omega⟩ ?_
                      refine r_aldK (k := 64) kx_180_123 (tk_64 hT) ⟨by omega, by omega⟩ v238e ?_
                      refine s_callS2 (s1 := 1) (s2 := 0) (as := [(0, v238)]) (rest := []) kx_180_124 kp_180_271 rfl kcl_178 rfl rfl (by decide) (m_178 (d := d) (c := v238) hT hI28) (kF (fun v242 v242p => ?_))
                      refine s_if_eq (t := 135) kx_180_127 (by decide) (fun hc243 => ?_) (fun hc243 => ?_)
                      · replace v242p := v242p.resolve_left (by omega)
                        exact cP.wk (lS1 rfl (lS1 rfl (lS1 rfl (lS1 rfl lS0)))) (jn245 M28 hI28 hJ237 hFm28 (Or.inr ⟨fun g => by have g1 := g.1; have g2 := g.2; omega, u28.1⟩))
                      · replace v242p := v242p.resolve_right (by omega)
                        refine s_aload_n kx_180_130 rfl ?_
                        refine s_iload_n kx_180_131 rfl ?_
                        refine r_put (k := 63) (f := 13) kx_180_132 kp_180_51 (tk_63 hT) kf_12_13 rfl (by decide) (by decide) hI28 (ru_63_13 (by omega) (by omega)) (fun M244 hI244 u244 => ?_)
                        have hFm244 := hFm28.up u244 rfl
                        have hFj99244 := hJ237.up u244 rfl
                        exact cP.wk (lS1 rfl (lS1 rfl (lS1 rfl (lS1 rfl lS0)))) (jn245 M244 hI244 hFj99244 hFm244 (Or.inl ⟨⟨by omega, by omega⟩, u244.1⟩))
            · exact absurd hB0 (by omega)
          · refine r_iinc kx_180_35 rfl km_180_1 (by decide) ⟨by omega, by omega⟩ rfl ?_
            refine s_goto (t := 5) kx_180_38 (by decide) ?_
            exact cP.wk (lS1 rfl (lS1 rfl lS0)) (ih10 (x1_2 + 1) (by omega) (by omega) (by omega) (owB_step i8 (by omega) (by omega)).1 (by omega))
  exact cP.wk (lS1 rfl (lS1 rfl lS0)) (key3 _ v1 (by omega) (by omega) (by omega) (by rw [show v1 = p by omega]) (Nat.lt_succ_self _))
