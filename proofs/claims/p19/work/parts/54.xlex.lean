/-! the class's reader of words answers what the words are -/
theorem owOl_i {w : Int} (h : w = 54525952 ∨ w = 308281344 ∨ w = 522190848 ∨ w = 773619712 ∨ w = 527892480 ∨ w = 48365568 ∨ w = 486146048 ∨ w = 46530560 ∨ w = 446103552 ∨ w = 438042624 ∨ w = 620213248 ∨ w = 150456320 ∨ w = 781325312 ∨ w = 650632192 ∨ w = 214416960 ∨ w = 672503392 ∨ w = 109094464 ∨ w = 113741152 ∨ w = 542723566 ∨ w = 659111367 ∨ w = 351582372 ∨ w = 658552979 ∨ w = 86148467 ∨ w = 777297172) : w ∈ owOl := by
  simp [owOl]
  exact h
theorem owOl_e {w : Int} (h : w ∈ owOl) : w = 54525952 ∨ w = 308281344 ∨ w = 522190848 ∨ w = 773619712 ∨ w = 527892480 ∨ w = 48365568 ∨ w = 486146048 ∨ w = 46530560 ∨ w = 446103552 ∨ w = 438042624 ∨ w = 620213248 ∨ w = 150456320 ∨ w = 781325312 ∨ w = 650632192 ∨ w = 214416960 ∨ w = 672503392 ∨ w = 109094464 ∨ w = 113741152 ∨ w = 542723566 ∨ w = 659111367 ∨ w = 351582372 ∨ w = 658552979 ∨ w = 86148467 ∨ w = 777297172 := by
  simp [owOl] at h
  exact h
section XL
variable {s : Nat → Int} {n p b q c x : Int}
theorem owB_step (h : owB s n q = b) (hq : q < n) (hc : s q.toNat = 10 ∨ s q.toNat = 32) : owB s n (q + 1) = b ∧ q + 1 ≤ b := by
  have e : owB s n q = owB s n (q + 1) := owR_step hq (owb_t.mpr hc)
  have := owB_ge (s := s) (n := n) (p := q + 1)
  omega
theorem owB_stop (h : owB s n q = b) (hq : n ≤ q ∨ (s q.toNat ≠ 10 ∧ s q.toNat ≠ 32)) : q = b := by
  have e : owB s n q = q := owR_stop (hq.imp id (fun g k => by have := owb_t.mp k; omega))
  omega
theorem owR_mid {f : Int → Bool} (h1 : p ≤ q) (h2 : q ≤ owR f s n p) (hn : p ≤ n) : owR f s n q = owR f s n p := by
  have key : ∀ (m : Nat) (p : Int), p ≤ q → q ≤ owR f s n p → p ≤ n → (q - p).toNat = m → owR f s n q = owR f s n p := by
    intro m
    induction m with
    | zero => intro p a b _ e; rw [show q = p by omega]
    | succ m ih =>
      intro p a b hn e
      have hr := owR_le f s hn
      have hp : f (s p.toNat) = true := owR_in (Int.le_refl _) (show p < owR f s n p by omega)
      have e1 := owR_step (s := s) (n := n) (p := p) (show p < n by omega) hp
      rw [e1] at b ⊢
      exact ih (p + 1) (by omega) b (by omega) (by omega)
  exact key _ p h1 h2 hn rfl
theorem LxP.mid {M : cM} (h : LxP M s n p) : owB s n (M 5 2) = owB s n p := owR_mid h.2.2.2.1 h.2.2.2.2.1 h.2.2.2.2.2.1
theorem owEw_step (h : owEw s n q = b) (hq : q < n) (hc : s q.toNat = c) (h1 : 97 ≤ c) (h2 : c ≤ 122) : owEw s n (q + 1) = b ∧ q + 1 ≤ b := by
  have e : owEw s n q = owEw s n (q + 1) := owR_step hq (owl_t.mpr (by rw [hc]; exact ⟨h1, h2⟩))
  have : q + 1 ≤ owEw s n (q + 1) := owR_ge _ _ _ _
  omega
theorem owEw_stop (h : owEw s n q = b) (hq : n ≤ q ∨ (s q.toNat < 97 ∨ 122 < s q.toNat)) : b = q := by
  have e : owEw s n q = q := owR_stop (hq.imp id (fun g k => by have := owl_t.mp k; omega))
  omega
theorem owEn_step (h : owEn s n q = b) (hq : q < n) (hc : s q.toNat = c) (h1 : 48 ≤ c) (h2 : c ≤ 57) : owEn s n (q + 1) = b ∧ q + 1 ≤ b := by
  have e : owEn s n q = owEn s n (q + 1) := owR_step hq (owd_t.mpr (by rw [hc]; exact ⟨h1, h2⟩))
  have : q + 1 ≤ owEn s n (q + 1) := owR_ge _ _ _ _
  omega
theorem owEn_stop (h : owEn s n q = b) (hq : n ≤ q ∨ (s q.toNat < 48 ∨ 57 < s q.toNat)) : b = q := by
  have e : owEn s n q = q := owR_stop (hq.imp id (fun g k => by have := owd_t.mp k; omega))
  omega
theorem owKw_cp (h : owEw s n b - b = 9) (hp : owPk (owS s b) 9 = 3352764567730) : owKw s n b = 1 ∧ owVw s n b = 1 := by
  unfold owKw owVw
  rw [if_pos ⟨h, hp⟩, if_pos ⟨h, hp⟩]
  exact ⟨rfl, rfl⟩
theorem owKw_long (h : 6 < owEw s n b - b) (hn : ¬ owCp s n b) : owKw s n b = 5 := by
  unfold owKw
  rw [if_neg hn, if_pos h]
theorem owKw_short (h : owEw s n b - b ≤ 6) : owVw s n b = owP6 s n b ∧ (owP6 s n b ∈ owOl → owKw s n b = 1) ∧ (¬ owP6 s n b ∈ owOl → owKw s n b = 2) := by
  have hn : ¬ owCp s n b := fun g => by have := g.1; omega
  unfold owVw owKw
  rw [if_neg hn, if_neg hn, if_neg (by omega)]
  exact ⟨rfl, fun g => if_pos g, fun g => if_neg g⟩
theorem owP6_of (hE : owEw s n b = q) (hb : b < q) (h6 : q - b ≤ 6) (hx : x = owPk (owS s b) (q - b).toNat) (hc : c = b) : owShl x (5 * (6 - (q - c))) = owP6 s n b ∧ 0 ≤ owP6 s n b ∧ owP6 s n b < 1073741824 := by
  subst hc
  have hr := owPk_rng (u := owS s c) (q - c).toNat (owS_lt (n := n) (by omega))
  rw [← hx] at hr
  have hp := owShl_p (v := x) (z := q - c) ⟨by omega, by omega⟩ hr.1 hr.2
  unfold owP6
  rw [hE, ← hx]
  exact hp
theorem owPn_r {k : Nat} (h : q ≤ owEn s n b) (hk : k = (q - b).toNat) (hm : k ≤ 4) : 0 ≤ owPn (owS s b) k ∧ owPn (owS s b) k < 10000 := by
  have h1 := owPn_rng (u := owS s b) k (by rw [hk]; exact owS_dg h)
  have h2 : (10 : Int) ^ k ≤ 10 ^ 4 := by
    have := Int.ofNat_le.mpr (Nat.pow_le_pow_right (show 0 < 10 by decide) hm)
    rw [Int.natCast_pow, Int.natCast_pow] at this
    exact this
  have h3 : (10 : Int) ^ 4 = 10000 := by decide
  omega
end XL
def gS_20_m : List (Nat × Nat) := [(5, 6), (5, 7)]
theorem f_20 {xs : Nat → Int} {Ln d : Nat} {T : List cK} {M : cM} (hT : TT T) (hI : Rng M) {kind place : Int} : cC k_P xs Ln (d + 0) 20 [rf 5, (0, kind), (0, place)] (T, M) (qW T M gS_20_m 0 (fun v M1 => 0 ≤ v ∧ v ≤ 0 ∧ ((M 5 6 = 0 ∧ M1 5 6 = kind ∧ M1 5 7 = place) ∨ (M 5 6 ≠ 0 ∧ M1 5 6 = M 5 6 ∧ M1 5 7 = M 5 7)))) := by
  show cP k_P xs Ln (d + 0) 20 0 [(0, rf 5), (1, (0, kind)), (2, (0, place))] [] (T, M) _
  have hFm : Fr gS_20_m M M := Fr.refl
  refine s_aload_n kx_20_0 rfl ?_
  refine r_getU (k := 5) (f := 6) kx_20_1 kp_20_29 (tk_5 hT) kf_3_6 (fun _ => rfl) (fun v1 v1e => ?_)
  refine s_if_ne (t := 17) kx_20_4 (by decide) (fun hc2 => ?_) (fun hc2 => ?_)
  · refine s_iconst (v := 0) kx_20_17 (by decide) ?_
    have hk3 : M 5 6 = v1 := v1e
    exact s_iret kx_20_18 (Or.inr ⟨kq_20, by omega⟩) ⟨_, _, rfl, rfl, hI, hFm, (by omega)⟩
  · refine s_aload_n kx_20_7 rfl ?_
    refine s_iload_n kx_20_8 rfl ?_
    refine r_put (k := 5) (f := 6) kx_20_9 kp_20_29 (tk_5 hT) kf_3_6 rfl (by decide) (by decide) hI ru_5_6 (fun M4 hI4 u4 => ?_)
    have hFm4 := hFm.up u4 rfl
    refine s_aload_n kx_20_12 rfl ?_
    refine s_iload_n kx_20_13 rfl ?_
    refine r_put (k := 5) (f := 7) kx_20_14 kp_20_32 (tk_5 hT) kf_3_7 rfl (by decide) (by decide) hI4 ru_5_7 (fun M5 hI5 u5 => ?_)
    have hFm5 := hFm4.up u5 rfl
    refine s_iconst (v := 0) kx_20_17 (by decide) ?_
    have hk6 : M5 5 6 = kind := ((u5.2 5 6 (by omega)).trans u4.1)
    have hk7 : M5 5 7 = place := u5.1
    exact s_iret kx_20_18 (Or.inr ⟨kq_20, by omega⟩) ⟨_, _, rfl, rfl, hI5, hFm5, (by omega)⟩
def gS_21_m : List (Nat × Nat) := [(5, 6), (5, 7)]
theorem f_21 {xs : Nat → Int} {Ln d : Nat} {T : List cK} {M : cM} (hT : TT T) (hI : Rng M) : cC k_P xs Ln (d + 1) 21 [rf 5] (T, M) (qW T M gS_21_m 0 (fun v M1 => 0 ≤ v ∧ v ≤ 0 ∧ ((M 5 6 = 0 ∧ M1 5 6 = 1 ∧ M1 5 7 = M 5 5) ∨ (M 5 6 ≠ 0 ∧ M1 5 6 = M 5 6 ∧ M1 5 7 = M 5 7)))) := by
  show cP k_P xs Ln (d + 1) 21 0 [(0, rf 5)] [] (T, M) _
  have hFm : Fr gS_21_m M M := Fr.refl
  refine s_aload_n kx_21_0 rfl ?_
  refine s_iconst (v := 1) kx_21_1 (by decide) ?_
  refine s_aload_n kx_21_2 rfl ?_
  refine r_getI (k := 5) (f := 5) kx_21_3 kp_21_26 (tk_5 hT) kf_3_5 (fun _ => rfl) (rg_5_5 hI) (fun v1 v1e v1a v1b => ?_)
  refine s_callV2 (k := 5) (s1 := 3) (s2 := 0) (as := [(0, v1), (0, 1)]) (rest := []) kx_21_6 kp_21_47 (Or.inl rfl) rfl (tk_5 hT) ki_20 kcl_20 rfl rfl (by decide) (f_20 (d := d) (kind := 1) (place := v1) hT hI) (kW (fun v2 M3 hI3 fr3 v2p => ?_))
  have hFm3 := hFm.call fr3 rfl
  exact s_iret kx_21_9 (Or.inr ⟨kq_21, by omega⟩) ⟨_, _, rfl, rfl, hI3, hFm3, (by omega)⟩
theorem f_22 {xs : Nat → Int} {Ln d : Nat} {T : List cK} {M : cM} (hT : TT T) (hI : Rng M) {w : Int} {s : Nat → Int} {n p : Int} (hL : LxA M s n p) : cC k_P xs Ln (d + 0) 22 [rf 5, (0, w)] (T, M) (qF T M 0 (fun v => (v = 1 ∧ owK s n p = 1 ∧ owW s n p w = 1) ∨ (v = 0 ∧ owW s n p w = 0))) := by
  show cP k_P xs Ln (d + 0) 22 0 [(0, rf 5), (1, (0, w))] [] (T, M) _
  have ⟨hs, h51, h0, hpn, h53, h55, h5f, h5g, h5v⟩ := hL
  refine s_aload_n kx_22_0 rfl ?_
  refine r_getI (k := 5) (f := 3) kx_22_1 kp_22_20 (tk_5 hT) kf_3_3 (fun _ => rfl) (rg_5_3 hI) (fun v1 v1e v1a v1b => ?_)
  refine s_iconst (v := 1) kx_22_4 (by decide) ?_
  refine s_icmp_ne (t := 20) kx_22_5 (by decide) (fun hc2 => ?_) (fun hc2 => ?_)
  · refine s_iconst (v := 0) kx_22_20 (by decide) ?_
    exact s_iret kx_22_21 (Or.inr ⟨kq_22, by omega⟩) ⟨_, rfl, rfl, (Or.inr ⟨rfl, if_neg (fun g => by have := h5v (by omega) (by omega); omega)⟩)⟩
  · refine s_aload_n kx_22_8 rfl ?_
    refine r_getU (k := 5) (f := 4) kx_22_9 kp_22_23 (tk_5 hT) kf_3_4 (fun _ => rfl) (fun v3 v3e => ?_)
    refine s_iload_n kx_22_12 rfl ?_
    refine s_icmp_ne (t := 20) kx_22_13 (by decide) (fun hc4 => ?_) (fun hc4 => ?_)
    · refine s_iconst (v := 0) kx_22_20 (by decide) ?_
      exact s_iret kx_22_21 (Or.inr ⟨kq_22, by omega⟩) ⟨_, rfl, rfl, (Or.inr ⟨rfl, if_neg (fun g => by have := h5v (by omega) (by omega); omega)⟩)⟩
    · refine s_iconst (v := 1) kx_22_16 (by decide) ?_
      refine s_goto (t := 21) kx_22_17 (by decide) ?_
      exact s_iret kx_22_21 (Or.inr ⟨kq_22, by omega⟩) ⟨_, rfl, rfl, (Or.inl ⟨rfl, by omega, if_pos ⟨by omega, by rw [← h5v (by omega) (by omega)]; omega⟩⟩)⟩
theorem f_23 {xs : Nat → Int} {Ln d : Nat} {T : List cK} {M : cM} (hT : TT T) (hI : Rng M) {c : Int} {s : Nat → Int} {n p : Int} (hL : LxA M s n p) : cC k_P xs Ln (d + 0) 23 [rf 5, (0, c)] (T, M) (qF T M 0 (fun v => (v = 1 ∧ owK s n p = 4 ∧ owG s n p c = 1) ∨ (v = 0 ∧ owG s n p c = 0))) := by
  show cP k_P xs Ln (d + 0) 23 0 [(0, rf 5), (1, (0, c))] [] (T, M) _
  have ⟨hs, h51, h0, hpn, h53, h55, h5f, h5g, h5v⟩ := hL
  refine s_aload_n kx_23_0 rfl ?_
  refine r_getI (k := 5) (f := 3) kx_23_1 kp_23_20 (tk_5 hT) kf_3_3 (fun _ => rfl) (rg_5_3 hI) (fun v1 v1e v1a v1b => ?_)
  refine s_iconst (v := 4) kx_23_4 (by decide) ?_
  refine s_icmp_ne (t := 20) kx_23_5 (by decide) (fun hc2 => ?_) (fun hc2 => ?_)
  · refine s_iconst (v := 0) kx_23_20 (by decide) ?_
    exact s_iret kx_23_21 (Or.inr ⟨kq_23, by omega⟩) ⟨_, rfl, rfl, (Or.inr ⟨rfl, if_neg (fun g => by have := h5v (by omega) (by omega); omega)⟩)⟩
  · refine s_aload_n kx_23_8 rfl ?_
    refine r_getU (k := 5) (f := 4) kx_23_9 kp_23_23 (tk_5 hT) kf_3_4 (fun _ => rfl) (fun v3 v3e => ?_)
    refine s_iload_n kx_23_12 rfl ?_
    refine s_icmp_ne (t := 20) kx_23_13 (by decide) (fun hc4 => ?_) (fun hc4 => ?_)
    · refine s_iconst (v := 0) kx_23_20 (by decide) ?_
      exact s_iret kx_23_21 (Or.inr ⟨kq_23, by omega⟩) ⟨_, rfl, rfl, (Or.inr ⟨rfl, if_neg (fun g => by have := h5v (by omega) (by omega); omega)⟩)⟩
    · refine s_iconst (v := 1) kx_23_16 (by decide) ?_
      refine s_goto (t := 21) kx_23_17 (by decide) ?_
      exact s_iret kx_23_21 (Or.inr ⟨kq_23, by omega⟩) ⟨_, rfl, rfl, (Or.inl ⟨rfl, by omega, if_pos ⟨by omega, by rw [← h5v (by omega) (by omega)]; omega⟩⟩)⟩
theorem f_29 {xs : Nat → Int} {Ln d : Nat} {T : List cK} {M : cM} (hT : TT T) (hI : Rng M) {w : Int} : cC k_P xs Ln (d + 0) 29 [(0, w)] (T, M) (qF T M 0 (fun v => (v = 1 ∧ w ∈ owOl) ∨ (v = 0 ∧ ¬ w ∈ owOl))) := by
  show cP k_P xs Ln (d + 0) 29 0 [(0, (0, w))] [] (T, M) _
  refine s_iload_n kx_29_0 rfl ?_
  rcases (by omega : w = 46530560 ∨ w = 48365568 ∨ w = 54525952 ∨ w = 86148467 ∨ w = 109094464 ∨ w = 113741152 ∨ w = 150456320 ∨ w = 214416960 ∨ w = 308281344 ∨ w = 351582372 ∨ w = 438042624 ∨ w = 446103552 ∨ w = 486146048 ∨ w = 522190848 ∨ w = 527892480 ∨ w = 542723566 ∨ w = 620213248 ∨ w = 650632192 ∨ w = 658552979 ∨ w = 659111367 ∨ w = 672503392 ∨ w = 773619712 ∨ w = 777297172 ∨ w = 781325312 ∨ (¬ w = 46530560 ∧ ¬ w = 48365568 ∧ ¬ w = 54525952 ∧ ¬ w = 86148467 ∧ ¬ w = 109094464 ∧ ¬ w = 113741152 ∧ ¬ w = 150456320 ∧ ¬ w = 214416960 ∧ ¬ w = 308281344 ∧ ¬ w = 351582372 ∧ ¬ w = 438042624 ∧ ¬ w = 446103552 ∧ ¬ w = 486146048 ∧ ¬ w = 522190848 ∧ ¬ w = 527892480 ∧ ¬ w = 542723566 ∧ ¬ w = 620213248 ∧ ¬ w = 650632192 ∧ ¬ w = 658552979 ∧ ¬ w = 659111367 ∧ ¬ w = 672503392 ∧ ¬ w = 773619712 ∧ ¬ w = 777297172 ∧ ¬ w = 781325312)) with hs1 | hs1 | hs1 | hs1 | hs1 | hs1 | hs1 | hs1 | hs1 | hs1 | hs1 | hs1 | hs1 | hs1 | hs1 | hs1 | hs1 | hs1 | hs1 | hs1 | hs1 | hs1 | hs1 | hs1 | hs1
  · refine s_lsw (t := 204) kx_29_1 (by decide) 46530560 hs1 (by decide) ?_
    refine s_iconst (v := 1) kx_29_204 (by decide) ?_
    exact s_iret kx_29_205 (Or.inr ⟨kq_29, by omega⟩) ⟨_, rfl, rfl, (Or.inl ⟨rfl, owOl_i (by omega)⟩)⟩
  · refine s_lsw (t := 204) kx_29_1 (by decide) 48365568 hs1 (by decide) ?_
    refine s_iconst (v := 1) kx_29_204 (by decide) ?_
    exact s_iret kx_29_205 (Or.inr ⟨kq_29, by omega⟩) ⟨_, rfl, rfl, (Or.inl ⟨rfl, owOl_i (by omega)⟩)⟩
  · refine s_lsw (t := 204) kx_29_1 (by decide) 54525952 hs1 (by decide) ?_
    refine s_iconst (v := 1) kx_29_204 (by decide) ?_
    exact s_iret kx_29_205 (Or.inr ⟨kq_29, by omega⟩) ⟨_, rfl, rfl, (Or.inl ⟨rfl, owOl_i (by omega)⟩)⟩
  · refine s_lsw (t := 204) kx_29_1 (by decide) 86148467 hs1 (by decide) ?_
    refine s_iconst (v := 1) kx_29_204 (by decide) ?_
    exact s_iret kx_29_205 (Or.inr ⟨kq_29, by omega⟩) ⟨_, rfl, rfl, (Or.inl ⟨rfl, owOl_i (by omega)⟩)⟩
  · refine s_lsw (t := 204) kx_29_1 (by decide) 109094464 hs1 (by decide) ?_
    refine s_iconst (v := 1) kx_29_204 (by decide) ?_
    exact s_iret kx_29_205 (Or.inr ⟨kq_29, by omega⟩) ⟨_, rfl, rfl, (Or.inl ⟨rfl, owOl_i (by omega)⟩)⟩
  · refine s_lsw (t := 204) kx_29_1 (by decide) 113741152 hs1 (by decide) ?_
    refine s_iconst (v := 1) kx_29_204 (by decide) ?_
    exact s_iret kx_29_205 (Or.inr ⟨kq_29, by omega⟩) ⟨_, rfl, rfl, (Or.inl ⟨rfl, owOl_i (by omega)⟩)⟩
  · refine s_lsw (t := 204) kx_29_1 (by decide) 150456320 hs1 (by decide) ?_
    refine s_iconst (v := 1) kx_29_204 (by decide) ?_
    exact s_iret kx_29_205 (Or.inr ⟨kq_29, by omega⟩) ⟨_, rfl, rfl, (Or.inl ⟨rfl, owOl_i (by omega)⟩)⟩
  · refine s_lsw (t := 204) kx_29_1 (by decide) 214416960 hs1 (by decide) ?_
    refine s_iconst (v := 1) kx_29_204 (by decide) ?_
    exact s_iret kx_29_205 (Or.inr ⟨kq_29, by omega⟩) ⟨_, rfl, rfl, (Or.inl ⟨rfl, owOl_i (by omega)⟩)⟩
  · refine s_lsw (t := 204) kx_29_1 (by decide) 308281344 hs1 (by decide) ?_
    refine s_iconst (v := 1) kx_29_204 (by decide) ?_
    exact s_iret kx_29_205 (Or.inr ⟨kq_29, by omega⟩) ⟨_, rfl, rfl, (Or.inl ⟨rfl, owOl_i (by omega)⟩)⟩
  · refine s_lsw (t := 204) kx_29_1 (by decide) 351582372 hs1 (by decide) ?_
    refine s_iconst (v := 1) kx_29_204 (by decide) ?_
    exact s_iret kx_29_205 (Or.inr ⟨kq_29, by omega⟩) ⟨_, rfl, rfl, (Or.inl ⟨rfl, owOl_i (by omega)⟩)⟩
  · refine s_lsw (t := 204) kx_29_1 (by decide) 438042624 hs1 (by decide) ?_
    refine s_iconst (v := 1) kx_29_204 (by decide) ?_
    exact s_iret kx_29_205 (Or.inr ⟨kq_29, by omega⟩) ⟨_, rfl, rfl, (Or.inl ⟨rfl, owOl_i (by omega)⟩)⟩
  · refine s_lsw (t := 204) kx_29_1 (by decide) 446103552 hs1 (by decide) ?_
    refine s_iconst (v := 1) kx_29_204 (by decide) ?_
    exact s_iret kx_29_205 (Or.inr ⟨kq_29, by omega⟩) ⟨_, rfl, rfl, (Or.inl ⟨rfl, owOl_i (by omega)⟩)⟩
  · refine s_lsw (t := 204) kx_29_1 (by decide) 486146048 hs1 (by decide) ?_
    refine s_iconst (v := 1) kx_29_204 (by decide) ?_
    exact s_iret kx_29_205 (Or.inr ⟨kq_29, by omega⟩) ⟨_, rfl, rfl, (Or.inl ⟨rfl, owOl_i (by omega)⟩)⟩
  · refine s_lsw (t := 204) kx_29_1 (by decide) 522190848 hs1 (by decide) ?_
    refine s_iconst (v := 1) kx_29_204 (by decide) ?_
    exact s_iret kx_29_205 (Or.inr ⟨kq_29, by omega⟩) ⟨_, rfl, rfl, (Or.inl ⟨rfl, owOl_i (by omega)⟩)⟩
  · refine s_lsw (t := 204) kx_29_1 (by decide) 527892480 hs1 (by decide) ?_
    refine s_iconst (v := 1) kx_29_204 (by decide) ?_
    exact s_iret kx_29_205 (Or.inr ⟨kq_29, by omega⟩) ⟨_, rfl, rfl, (Or.inl ⟨rfl, owOl_i (by omega)⟩)⟩
  · refine s_lsw (t := 204) kx_29_1 (by decide) 542723566 hs1 (by decide) ?_
    refine s_iconst (v := 1) kx_29_204 (by decide) ?_
    exact s_iret kx_29_205 (Or.inr ⟨kq_29, by omega⟩) ⟨_, rfl, rfl, (Or.inl ⟨rfl, owOl_i (by omega)⟩)⟩
  · refine s_lsw (t := 204) kx_29_1 (by decide) 620213248 hs1 (by decide) ?_
    refine s_iconst (v := 1) kx_29_204 (by decide) ?_
    exact s_iret kx_29_205 (Or.inr ⟨kq_29, by omega⟩) ⟨_, rfl, rfl, (Or.inl ⟨rfl, owOl_i (by omega)⟩)⟩
  · refine s_lsw (t := 204) kx_29_1 (by decide) 650632192 hs1 (by decide) ?_
    refine s_iconst (v := 1) kx_29_204 (by decide) ?_
    exact s_iret kx_29_205 (Or.inr ⟨kq_29, by omega⟩) ⟨_, rfl, rfl, (Or.inl ⟨rfl, owOl_i (by omega)⟩)⟩
  · refine s_lsw (t := 204) kx_29_1 (by decide) 658552979 hs1 (by decide) ?_
    refine s_iconst (v := 1) kx_29_204 (by decide) ?_
    exact s_iret kx_29_205 (Or.inr ⟨kq_29, by omega⟩) ⟨_, rfl, rfl, (Or.inl ⟨rfl, owOl_i (by omega)⟩)⟩
  · refine s_lsw (t := 204) kx_29_1 (by decide) 659111367 hs1 (by decide) ?_
    refine s_iconst (v := 1) kx_29_204 (by decide) ?_
    exact s_iret kx_29_205 (Or.inr ⟨kq_29, by omega⟩) ⟨_, rfl, rfl, (Or.inl ⟨rfl, owOl_i (by omega)⟩)⟩
  · refine s_lsw (t := 204) kx_29_1 (by decide) 672503392 hs1 (by decide) ?_
    refine s_iconst (v := 1) kx_29_204 (by decide) ?_
    exact s_iret kx_29_205 (Or.inr ⟨kq_29, by omega⟩) ⟨_, rfl, rfl, (Or.inl ⟨rfl, owOl_i (by omega)⟩)⟩
  · refine s_lsw (t := 204) kx_29_1 (by decide) 773619712 hs1 (by decide) ?_
    refine s_iconst (v := 1) kx_29_204 (by decide) ?_
    exact s_iret kx_29_205 (Or.inr ⟨kq_29, by omega⟩) ⟨_, rfl, rfl, (Or.inl ⟨rfl, owOl_i (by omega)⟩)⟩
  · refine s_lsw (t := 204) kx_29_1 (by decide) 777297172 hs1 (by decide) ?_
    refine s_iconst (v := 1) kx_29_204 (by decide) ?_
    exact s_iret kx_29_205 (Or.inr ⟨kq_29, by omega⟩) ⟨_, rfl, rfl, (Or.inl ⟨rfl, owOl_i (by omega)⟩)⟩
  · refine s_lsw (t := 204) kx_29_1 (by decide) 781325312 hs1 (by decide) ?_
    refine s_iconst (v := 1) kx_29_204 (by decide) ?_
    exact s_iret kx_29_205 (Or.inr ⟨kq_29, by omega⟩) ⟨_, rfl, rfl, (Or.inl ⟨rfl, owOl_i (by omega)⟩)⟩
  · refine s_lswD (t := 206) kx_29_1 (by decide) (by simpa using hs1) (by decide) ?_
    refine s_iconst (v := 0) kx_29_206 (by decide) ?_
    exact s_iret kx_29_207 (Or.inr ⟨kq_29, by omega⟩) ⟨_, rfl, rfl, (Or.inr ⟨rfl, fun g => by have := owOl_e g; omega⟩)⟩
def gS_25_l0 : List (Nat × Nat) := [(5, 2)]
def gS_25_m : List (Nat × Nat) := [(5, 2)]
theorem f_25 {xs : Nat → Int} {Ln d : Nat} {T : List cK} {M : cM} (hT : TT T) (hI : Rng M) (h50 : M 5 0 = ((2 : Nat) : Int)) {s : Nat → Int} {n b : Int} (hs : M 2 = s) (h51 : M 5 1 = n) (hb : owB s n (M 5 2) = b) : cC k_P xs Ln (d + 0) 25 [rf 5] (T, M) (qW T M gS_25_m 0 (fun v M1 => M1 5 2 = b ∧ ((v = 1 ∧ n ≤ b) ∨ (v = 0 ∧ b < n)))) := by
  show cP k_P xs Ln (d + 0) 25 0 [(0, rf 5)] [] (T, M) _
  have hFm : Fr gS_25_m M M := Fr.refl
  have key2 : ∀ n3 : Nat, ∀ M1 : cM, Rng M1 → Fr gS_25_m M M1 → Fr gS_25_l0 M M1 → (owB s n (M1 5 2) = b) → (1600 - M1 5 2).toNat < n3 → cP k_P xs Ln (d + 0) 25 0 [(0, rf 5)] [] (T, M1) (qW T M gS_25_m 0 (fun v M1 => M1 5 2 = b ∧ ((v = 1 ∧ n ≤ b) ∨ (v = 0 ∧ b < n)))) := by
    intro n3
    induction n3 with
    | zero => intro M1 hI1 hFm1 fl1 i4 hm5; exact absurd hm5 (Nat.not_lt_zero _)
    | succ n3 ih6 =>
      intro M1 hI1 hFm1 fl1 i4 hm5
      refine s_aload_n kx_25_0 rfl ?_
      refine r_getI (k := 5) (f := 2) kx_25_1 kp_25_17 (tk_5 hT) kf_3_2 (fun _ => rfl) (rg_5_2 hI1) (fun v7 v7e v7a v7b => ?_)
      refine s_aload_n kx_25_4 rfl ?_
      refine r_getI (k := 5) (f := 1) kx_25_5 kp_25_13 (tk_5 hT) kf_3_1 (fun _ => rfl) (rg_5_1 hI1) (fun v8 v8e v8a v8b => ?_)
      have v8z : M 5 1 = v8 := ((fl1 5 1 rfl)).symm.trans v8e
      refine s_icmp_ge (t := 52) kx_25_8 (by decide) (fun hc9 => ?_) (fun hc9 => ?_)
      · refine s_aload_n kx_25_52 rfl ?_
        refine r_getK (k := 5) (f := 2) kx_25_53 kp_25_17 (tk_5 hT) kf_3_2 (fun _ => rfl) v7e ?_
        refine s_aload_n kx_25_56 rfl ?_
        refine r_getK (k := 5) (f := 1) kx_25_57 kp_25_13 (tk_5 hT) kf_3_1 (fun _ => rfl) v8e ?_
        refine s_icmp_lt (t := 67) kx_25_60 (by decide) (fun hc10 => ?_) (fun hc10 => ?_)
        · refine s_iconst (v := 0) kx_25_67 (by decide) ?_
          have hk11 : M1 5 2 = v7 := v7e
          have hz5 := (show owB s n v7 = b by rw [← v7e]; exact i4)
          have hz6 := owB_stop hz5 (by omega)
          exact s_iret kx_25_68 (Or.inr ⟨kq_25, by omega⟩) ⟨_, _, rfl, rfl, hI1, hFm1, (by omega)⟩
        · refine s_iconst (v := 1) kx_25_63 (by decide) ?_
          refine s_goto (t := 68) kx_25_64 (by decide) ?_
          have hk12 : M1 5 2 = v7 := v7e
          have hz5 := (show owB s n v7 = b by rw [← v7e]; exact i4)
          have hz6 := owB_stop hz5 (by omega)
          exact s_iret kx_25_68 (Or.inr ⟨kq_25, by omega⟩) ⟨_, _, rfl, rfl, hI1, hFm1, (by omega)⟩
      · refine s_aload_n kx_25_11 rfl ?_
        refine r_getR (k := 5) (f := 0) (k2 := 2) kx_25_12 kp_25_7 (tk_5 hT) kf_3_0 (by decide) ((fl1 5 0 rfl).trans h50) ?_
        refine s_aload_n kx_25_15 rfl ?_
        refine r_getK (k := 5) (f := 2) kx_25_16 kp_25_17 (tk_5 hT) kf_3_2 (fun _ => rfl) v7e ?_
        refine r_ald (k := 2) kx_25_19 (tk_2 hT) ⟨by omega, by omega⟩ (rg_2 hI1) (fun v13 v13e v13a v13b => ?_)
        have v13s : s (v7).toNat = v13 := (congrFun hs (v7).toNat).symm.trans (((fl1 2 _ rfl)).symm.trans v13e)
        refine s_bipush (v := 10) kx_25_20 (by decide) ?_
        refine s_icmp_eq (t := 39) kx_25_22 (by decide) (fun hc14 => ?_) (fun hc14 => ?_)
        · refine s_aload_n kx_25_39 rfl ?_
          refine s_dup kx_25_40 rfl ?_
          refine r_getK (k := 5) (f := 2) kx_25_41 kp_25_17 (tk_5 hT) kf_3_2 (fun _ => rfl) v7e ?_
          refine s_iconst (v := 1) kx_25_44 (by decide) ?_
          refine r_add kx_25_45 ⟨by omega, by omega⟩ ?_
          refine r_put (k := 5) (f := 2) kx_25_46 kp_25_17 (tk_5 hT) kf_3_2 rfl (by decide) (by decide) hI1 (ru_5_2 (by omega) (by omega)) (fun M15 hI15 u15 => ?_)
          have hFm15 := hFm1.up u15 rfl
          have hFl015 := fl1.up u15 rfl
          refine s_goto (t := 0) kx_25_49 (by decide) ?_
          have hk16 : M15 5 2 = (v7 + 1) := u15.1
          exact cP.wk (lS1 rfl lS0) (ih6 M15 hI15 hFm15 hFl015 (by rw [u15.1]; exact (owB_step (show owB s n v7 = b by rw [← v7e]; exact i4) (by omega) (by omega)).1) (by omega))
        · refine s_aload_n kx_25_25 rfl ?_
          refine r_getR (k := 5) (f := 0) (k2 := 2) kx_25_26 kp_25_7 (tk_5 hT) kf_3_0 (by decide) ((fl1 5 0 rfl).trans h50) ?_
          refine s_aload_n kx_25_29 rfl ?_
          refine r_getK (k := 5) (f := 2) kx_25_30 kp_25_17 (tk_5 hT) kf_3_2 (fun _ => rfl) v7e ?_
          refine r_aldK (k := 2) kx_25_33 (tk_2 hT) ⟨by omega, by omega⟩ v13e ?_
          refine s_bipush (v := 32) kx_25_34 (by decide) ?_
          refine s_icmp_ne (t := 52) kx_25_36 (by decide) (fun hc17 => ?_) (fun hc17 => ?_)
          · refine s_aload_n kx_25_52 rfl ?_
            refine r_getK (k := 5) (f := 2) kx_25_53 kp_25_17 (tk_5 hT) kf_3_2 (fun _ => rfl) v7e ?_
            refine s_aload_n kx_25_56 rfl ?_
            refine r_getK (k := 5) (f := 1) kx_25_57 kp_25_13 (tk_5 hT) kf_3_1 (fun _ => rfl) v8e ?_
            refine s_icmp_lt (t := 67) kx_25_60 (by decide) (fun hc18 => ?_) (fun hc18 => ?_)
            · refine s_iconst (v := 0) kx_25_67 (by decide) ?_
              have hk19 : M1 5 2 = v7 := v7e
              have hz5 := (show owB s n v7 = b by rw [← v7e]; exact i4)
              have hz6 := owB_stop hz5 (by omega)
              exact s_iret kx_25_68 (Or.inr ⟨kq_25, by omega⟩) ⟨_, _, rfl, rfl, hI1, hFm1, (by omega)⟩
            · refine s_iconst (v := 1) kx_25_63 (by decide) ?_
              refine s_goto (t := 68) kx_25_64 (by decide) ?_
              have hk20 : M1 5 2 = v7 := v7e
              have hz5 := (show owB s n v7 = b by rw [← v7e]; exact i4)
              have hz6 := owB_stop hz5 (by omega)
              exact s_iret kx_25_68 (Or.inr ⟨kq_25, by omega⟩) ⟨_, _, rfl, rfl, hI1, hFm1, (by omega)⟩
          · refine s_aload_n kx_25_39 rfl ?_
            refine s_dup kx_25_40 rfl ?_
            refine r_getK (k := 5) (f := 2) kx_25_41 kp_25_17 (tk_5 hT) kf_3_2 (fun _ => rfl) v7e ?_
            refine s_iconst (v := 1) kx_25_44 (by decide) ?_
            refine r_add kx_25_45 ⟨by omega, by omega⟩ ?_
            refine r_put (k := 5) (f := 2) kx_25_46 kp_25_17 (tk_5 hT) kf_3_2 rfl (by decide) (by decide) hI1 (ru_5_2 (by omega) (by omega)) (fun M21 hI21 u21 => ?_)
            have hFm21 := hFm1.up u21 rfl
            have hFl021 := fl1.up u21 rfl
            refine s_goto (t := 0) kx_25_49 (by decide) ?_
            have hk22 : M21 5 2 = (v7 + 1) := u21.1
            exact cP.wk (lS1 rfl lS0) (ih6 M21 hI21 hFm21 hFl021 (by rw [u21.1]; exact (owB_step (show owB s n v7 = b by rw [← v7e]; exact i4) (by omega) (by omega)).1) (by omega))
  exact cP.wk (lS1 rfl lS0) (key2 _ M hI hFm Fr.refl hb (Nat.lt_succ_self _))
def gS_27_l2 : List (Nat × Nat) := [(5, 2)]
def gS_27_m : List (Nat × Nat) := [(5, 2), (5, 3), (5, 4), (5, 6), (5, 7)]
theorem f_27 {xs : Nat → Int} {Ln d : Nat} {T : List cK} {M : cM} (hT : TT T) (hI : Rng M) (h50 : M 5 0 = ((2 : Nat) : Int)) {s : Nat → Int} {n b : Int} (hs : M 2 = s) (h51 : M 5 1 = n) (h52 : M 5 2 = b) (h55 : M 5 5 = b) (hbn : b < n) (hl : owLt (s b.toNat)) (h56 : M 5 6 = 0) : cC k_P xs Ln (d + 1) 27 [rf 5] (T, M) (qV T M gS_27_m (fun M1 => M1 5 3 = owKw s n b ∧ (owKw s n b ≠ 5 → M1 5 4 = owVw s n b ∧ M1 5 2 = owEw s n b ∧ M1 5 6 = 0) ∧ (owKw s n b = 5 → M1 5 6 = 1 ∧ M1 5 7 = b + 6) ∧ b ≤ M1 5 2)) := by
  show cP k_P xs Ln (d + 1) 27 0 [(0, rf 5)] [] (T, M) _
  have hFm : Fr gS_27_m M M := Fr.refl
  refine s_lconst (v := 0) kx_27_0 (by decide) ?_
  refine s_lstore_n kx_27_1 km_27_2 rfl ?_
  have key3 : ∀ n4 : Nat, ∀ (x1_1 : Int), ∀ M2 : cM, Rng M2 → Fr gS_27_m M M2 → Fr gS_27_l2 M M2 → (b ≤ M2 5 2) → (owEw s n (M2 5 2) = owEw s n b) → (M2 5 2 - b ≤ 9 → x1_1 = owPk (owS s b) (M2 5 2 - b).toNat) → (1600 - M2 5 2).toNat < n4 → cP k_P xs Ln (d + 1) 27 2 [(0, rf 5), (1, (1, x1_1))] [] (T, M2) (qV T M gS_27_m (fun M1 => M1 5 3 = owKw s n b ∧ (owKw s n b ≠ 5 → M1 5 4 = owVw s n b ∧ M1 5 2 = owEw s n b ∧ M1 5 6 = 0) ∧ (owKw s n b = 5 → M1 5 6 = 1 ∧ M1 5 7 = b + 6) ∧ b ≤ M1 5 2)) := by
    intro n4
    induction n4 with
    | zero => intro x1_1 M2 hI2 hFm2 fl2 i5 i6 i7 hm8; exact absurd hm8 (Nat.not_lt_zero _)
    | succ n4 ih9 =>
      intro x1_1 M2 hI2 hFm2 fl2 i5 i6 i7 hm8
      refine s_aload_n kx_27_2 rfl ?_
      refine r_getI (k := 5) (f := 2) kx_27_3 kp_27_17 (tk_5 hT) kf_3_2 (fun _ => rfl) (rg_5_2 hI2) (fun v10 v10e v10a v10b => ?_)
      refine s_aload_n kx_27_6 rfl ?_
      refine r_getI (k := 5) (f := 1) kx_27_7 kp_27_13 (tk_5 hT) kf_3_1 (fun _ => rfl) (rg_5_1 hI2) (fun v11 v11e v11a v11b => ?_)
      have v11z : M 5 1 = v11 := ((fl2 5 1 rfl)).symm.trans v11e
      refine s_icmp_ge (t := 59) kx_27_10 (by decide) (fun hc12 => ?_) (fun hc12 => ?_)
      · have hE : owEw s n b = v10 := owEw_stop (show owEw s n v10 = owEw s n b by rw [← v10e]; exact i6) (Or.inl (by omega))
        have hEr := owEw_in hbn hl
        have hX : v10 - b ≤ 9 → x1_1 = owPk (owS s b) (v10 - b).toNat := fun g => by rw [← v10e] at g ⊢; exact i7 g
        refine s_aload_n kx_27_59 rfl ?_
        refine r_getK (k := 5) (f := 2) kx_27_60 kp_27_17 (tk_5 hT) kf_3_2 (fun _ => rfl) v10e ?_
        refine s_aload_n kx_27_63 rfl ?_
        refine r_getI (k := 5) (f := 5) kx_27_64 kp_27_26 (tk_5 hT) kf_3_5 (fun _ => rfl) (rg_5_5 hI2) (fun v13 v13e v13a v13b => ?_)
        have v13z : M 5 5 = v13 := ((fl2 5 5 rfl)).symm.trans v13e
        refine r_sub kx_27_67 ⟨by omega, by omega⟩ ?_
        refine s_istore_n kx_27_68 km_27_3 rfl ?_
        refine s_iload_n kx_27_69 rfl ?_
        refine s_bipush (v := 9) kx_27_70 (by decide) ?_
        refine s_icmp_ne (t := 94) kx_27_72 (by decide) (fun hc14 => ?_) (fun hc14 => ?_)
        · refine s_iload_n kx_27_94 rfl ?_
          refine s_bipush (v := 6) kx_27_95 (by decide) ?_
          refine s_icmp_le (t := 119) kx_27_97 (by decide) (fun hc15 => ?_) (fun hc15 => ?_)
          · have hp6 := owP6_of hE (by omega) (by omega) (hX (by omega)) (show v13 = b by omega)
            have hsh := owKw_short (s := s) (n := n) (b := b) (by omega)
            refine s_aload_n kx_27_119 rfl ?_
            refine s_lload_n kx_27_120 rfl ?_
            refine s_iconst (v := 5) kx_27_121 (by decide) ?_
            refine s_bipush (v := 6) kx_27_122 (by decide) ?_
            refine s_iload_n kx_27_124 rfl ?_
            refine r_sub kx_27_125 ⟨by omega, by omega⟩ ?_
            refine r_mul kx_27_126 ⟨by omega, by omega⟩ ?_
            refine s_lshl (z := (owShl x1_1 (5 * (6 - (v10 - v13))))) kx_27_127 rfl ?_
            refine r_l2iE kx_27_128 (by omega) (by omega) ?_
            refine r_put (k := 5) (f := 4) kx_27_129 kp_27_23 (tk_5 hT) kf_3_4 rfl (by decide) (by decide) hI2 ru_5_4 (fun M17 hI17 u17 => ?_)
            have hFm17 := hFm2.up u17 rfl
            refine s_aload_n kx_27_132 rfl ?_
            refine s_aload_n kx_27_133 rfl ?_
            refine r_getK (k := 5) (f := 4) kx_27_134 kp_27_23 (tk_5 hT) kf_3_4 (fun _ => rfl) u17.1 ?_
            refine s_callS2 (s1 := 1) (s2 := 1) (as := [(0, (owShl x1_1 (5 * (6 - (v10 - v13)))))]) (rest := [rf 5]) kx_27_137 kp_27_80 rfl kcl_29 rfl rfl (by decide) (f_29 (d := d) (w := (owShl x1_1 (5 * (6 - (v10 - v13))))) hT hI17) (kF (fun v18 v18p => ?_))
            refine s_if_eq (t := 147) kx_27_140 (by decide) (fun hc19 => ?_) (fun hc19 => ?_)
            · replace v18p := v18p.resolve_left (by omega)
              have hkk : owKw s n b = 2 := hsh.2.2 (by rw [← hp6.1]; exact v18p.2)
              refine s_iconst (v := 2) kx_27_147 (by decide) ?_
              refine r_put (k := 5) (f := 3) kx_27_148 kp_27_20 (tk_5 hT) kf_3_3 rfl (by decide) (by decide) hI17 (ru_5_3 (by omega) (by omega)) (fun M20 hI20 u20 => ?_)
              have hFm20 := hFm17.up u20 rfl
              have hk21 : M20 5 2 = v10 := ((u20.2 5 2 (by omega)).trans ((u17.2 5 2 (by omega)).trans v10e))
              have hk22 : M20 5 3 = 2 := u20.1
              have hk23 : M20 5 4 = (owShl x1_1 (5 * (6 - (v10 - v13)))) := ((u20.2 5 4 (by omega)).trans u17.1)
              have hf6 : M20 5 6 = 0 := ((((u20.2 5 6 (by omega)).trans ((u17.2 5 6 (by omega)).trans (fl2 5 6 rfl)))).trans h56)
              exact s_vret kx_27_151 kq_27 ⟨_, rfl, rfl, hI20, hFm20, ⟨by omega, fun _ => ⟨by omega, by omega, by omega⟩, fun g => absurd g (by omega), by omega⟩⟩
            · replace v18p := v18p.resolve_right (by omega)
              have hkk : owKw s n b = 1 := hsh.2.1 (by rw [← hp6.1]; exact v18p.2)
              refine s_iconst (v := 1) kx_27_143 (by decide) ?_
              refine s_goto (t := 148) kx_27_144 (by decide) ?_
              refine r_put (k := 5) (f := 3) kx_27_148 kp_27_20 (tk_5 hT) kf_3_3 rfl (by decide) (by decide) hI17 (ru_5_3 (by omega) (by omega)) (fun M24 hI24 u24 => ?_)
              have hFm24 := hFm17.up u24 rfl
              have hk25 : M24 5 2 = v10 := ((u24.2 5 2 (by omega)).trans ((u17.2 5 2 (by omega)).trans v10e))
              have hk26 : M24 5 3 = 1 := u24.1
              have hk27 : M24 5 4 = (owShl x1_1 (5 * (6 - (v10 - v13)))) := ((u24.2 5 4 (by omega)).trans u17.1)
              have hf6 : M24 5 6 = 0 := ((((u24.2 5 6 (by omega)).trans ((u17.2 5 6 (by omega)).trans (fl2 5 6 rfl)))).trans h56)
              exact s_vret kx_27_151 kq_27 ⟨_, rfl, rfl, hI24, hFm24, ⟨by omega, fun _ => ⟨by omega, by omega, by omega⟩, fun g => absurd g (by omega), by omega⟩⟩
          · have hf6 : M2 5 6 = 0 := (((fl2 5 6 rfl)).trans h56)
            have hlg := owKw_long (s := s) (n := n) (b := b) (by omega) (fun g => by first | (have g1 := g.1; omega) | (have g2 := g.2; omega))
            refine s_aload_n kx_27_100 rfl ?_
            refine s_iconst (v := 5) kx_27_101 (by decide) ?_
            refine r_put (k := 5) (f := 3) kx_27_102 kp_27_20 (tk_5 hT) kf_3_3 rfl (by decide) (by decide) hI2 (ru_5_3 (by omega) (by omega)) (fun M28 hI28 u28 => ?_)
            have hFm28 := hFm2.up u28 rfl
            refine s_aload_n kx_27_105 rfl ?_
            refine s_iconst (v := 1) kx_27_106 (by decide) ?_
            refine s_aload_n kx_27_107 rfl ?_
            refine r_getK (k := 5) (f := 5) kx_27_108 kp_27_26 (tk_5 hT) kf_3_5 (fun _ => rfl) ((u28.2 5 5 (by omega)).trans v13e) ?_
            refine s_bipush (v := 6) kx_27_111 (by decide) ?_
            refine r_add kx_27_113 ⟨by omega, by omega⟩ ?_
            have hf7 : M28 5 6 = 0 := ((((u28.2 5 6 (by omega)).trans (fl2 5 6 rfl))).trans h56)
            refine s_callV2 (k := 5) (s1 := 3) (s2 := 0) (as := [(0, (v13 + 6)), (0, 1)]) (rest := []) kx_27_114 kp_27_47 (Or.inl rfl) rfl (tk_5 hT) ki_20 kcl_20 rfl rfl (by decide) (f_20 (d := d) (kind := 1) (place := (v13 + 6)) hT hI28) (kW (fun v29 M30 hI30 fr30 v29p => ?_))
            have hFm30 := hFm28.call fr30 rfl
            have tr31 := (fr30 5 2 rfl)
            have tr32 := (fr30 5 3 rfl)
            refine s_pop kx_27_117 rfl ?_
            have hk33 : M30 5 2 = v10 := ((fr30 5 2 rfl).trans ((u28.2 5 2 (by omega)).trans v10e))
            have hk34 : M30 5 3 = 5 := ((fr30 5 3 rfl).trans u28.1)
            exact s_vret kx_27_118 kq_27 ⟨_, rfl, rfl, hI30, hFm30, ⟨by omega, fun g => absurd hlg g, fun _ => ⟨by omega, by omega⟩, by omega⟩⟩
        · refine s_lload_n kx_27_75 rfl ?_
          refine s_ldc2_w kx_27_76 kp_27_78 ?_
          have hX9 := hX (by omega)
          have hXr := owPk_r (m := 0) (s := s) (n := n) (b := b) (q := v10) (by omega) rfl (by omega)
          rw [← hX9] at hXr
          rw [show (v10 - b).toNat = 9 by omega] at hX9
          refine r_lcmpE kx_27_79 ⟨by omega, by omega⟩ ⟨by omega, by omega⟩ (fun v35 v35p => ?_)
          refine s_if_ne (t := 94) kx_27_80 (by decide) (fun hc36 => ?_) (fun hc36 => ?_)
          · refine s_iload_n kx_27_94 rfl ?_
            refine s_bipush (v := 6) kx_27_95 (by decide) ?_
            refine s_icmp_le (t := 119) kx_27_97 (by decide) (fun hc37 => absurd hc37 (by omega)) (fun hc37 => ?_)
            have hf6 : M2 5 6 = 0 := (((fl2 5 6 rfl)).trans h56)
            have hlg := owKw_long (s := s) (n := n) (b := b) (by omega) (fun g => by first | (have g1 := g.1; omega) | (have g2 := g.2; omega))
            refine s_aload_n kx_27_100 rfl ?_
            refine s_iconst (v := 5) kx_27_101 (by decide) ?_
            refine r_put (k := 5) (f := 3) kx_27_102 kp_27_20 (tk_5 hT) kf_3_3 rfl (by decide) (by decide) hI2 (ru_5_3 (by omega) (by omega)) (fun M38 hI38 u38 => ?_)
            have hFm38 := hFm2.up u38 rfl
            refine s_aload_n kx_27_105 rfl ?_
            refine s_iconst (v := 1) kx_27_106 (by decide) ?_
            refine s_aload_n kx_27_107 rfl ?_
            refine r_getK (k := 5) (f := 5) kx_27_108 kp_27_26 (tk_5 hT) kf_3_5 (fun _ => rfl) ((u38.2 5 5 (by omega)).trans v13e) ?_
            refine s_bipush (v := 6) kx_27_111 (by decide) ?_
            refine r_add kx_27_113 ⟨by omega, by omega⟩ ?_
            have hf7 : M38 5 6 = 0 := ((((u38.2 5 6 (by omega)).trans (fl2 5 6 rfl))).trans h56)
            refine s_callV2 (k := 5) (s1 := 3) (s2 := 0) (as := [(0, (v13 + 6)), (0, 1)]) (rest := []) kx_27_114 kp_27_47 (Or.inl rfl) rfl (tk_5 hT) ki_20 kcl_20 rfl rfl (by decide) (f_20 (d := d) (kind := 1) (place := (v13 + 6)) hT hI38) (kW (fun v39 M40 hI40 fr40 v39p => ?_))
            have hFm40 := hFm38.call fr40 rfl
            have tr41 := (fr40 5 2 rfl)
            have tr42 := (fr40 5 3 rfl)
            refine s_pop kx_27_117 rfl ?_
            have hk43 : M40 5 2 = v10 := ((fr40 5 2 rfl).trans ((u38.2 5 2 (by omega)).trans v10e))
            have hk44 : M40 5 3 = 5 := ((fr40 5 3 rfl).trans u38.1)
            exact s_vret kx_27_118 kq_27 ⟨_, rfl, rfl, hI40, hFm40, ⟨by omega, fun g => absurd hlg g, fun _ => ⟨by omega, by omega⟩, by omega⟩⟩
          · have hcp := owKw_cp (s := s) (n := n) (b := b) (by omega) (hX9.symm.trans (by omega))
            refine s_aload_n kx_27_83 rfl ?_
            refine s_iconst (v := 1) kx_27_84 (by decide) ?_
            refine r_put (k := 5) (f := 3) kx_27_85 kp_27_20 (tk_5 hT) kf_3_3 rfl (by decide) (by decide) hI2 (ru_5_3 (by omega) (by omega)) (fun M45 hI45 u45 => ?_)
            have hFm45 := hFm2.up u45 rfl
            refine s_aload_n kx_27_88 rfl ?_
            refine s_iconst (v := 1) kx_27_89 (by decide) ?_
            refine r_put (k := 5) (f := 4) kx_27_90 kp_27_23 (tk_5 hT) kf_3_4 rfl (by decide) (by decide) hI45 ru_5_4 (fun M46 hI46 u46 => ?_)
            have hFm46 := hFm45.up u46 rfl
            have hk47 : M46 5 2 = v10 := ((u46.2 5 2 (by omega)).trans ((u45.2 5 2 (by omega)).trans v10e))
            have hk48 : M46 5 3 = 1 := ((u46.2 5 3 (by omega)).trans u45.1)
            have hk49 : M46 5 4 = 1 := u46.1
            have hf6 : M46 5 6 = 0 := ((((u46.2 5 6 (by omega)).trans ((u45.2 5 6 (by omega)).trans (fl2 5 6 rfl)))).trans h56)
            exact s_vret kx_27_93 kq_27 ⟨_, rfl, rfl, hI46, hFm46, ⟨by omega, fun _ => ⟨by omega, by omega, by omega⟩, fun g => absurd g (by omega), by omega⟩⟩
      · refine s_aload_n kx_27_13 rfl ?_
        refine r_getR (k := 5) (f := 0) (k2 := 2) kx_27_14 kp_27_7 (tk_5 hT) kf_3_0 (by decide) ((fl2 5 0 rfl).trans h50) ?_
        refine s_aload_n kx_27_17 rfl ?_
        refine r_getK (k := 5) (f := 2) kx_27_18 kp_27_17 (tk_5 hT) kf_3_2 (fun _ => rfl) v10e ?_
        refine r_ald (k := 2) kx_27_21 (tk_2 hT) ⟨by omega, by omega⟩ (rg_2 hI2) (fun v50 v50e v50a v50b => ?_)
        have v50s : s (v10).toNat = v50 := (congrFun hs (v10).toNat).symm.trans (((fl2 2 _ rfl)).symm.trans v50e)
        refine s_callS2 (s1 := 1) (s2 := 0) (as := [(0, v50)]) (rest := []) kx_27_22 kp_27_65 rfl kcl_30 rfl rfl (by decide) (m_30 (d := d) (c := v50) hT hI2) (kF (fun v51 v51p => ?_))
        refine s_if_eq (t := 59) kx_27_25 (by decide) (fun hc52 => ?_) (fun hc52 => ?_)
        · replace v51p := v51p.resolve_left (by omega)
          have hE : owEw s n b = v10 := owEw_stop (show owEw s n v10 = owEw s n b by rw [← v10e]; exact i6) (Or.inr (by rw [v50s]; omega))
          have hEr := owEw_in hbn hl
          have hX : v10 - b ≤ 9 → x1_1 = owPk (owS s b) (v10 - b).toNat := fun g => by rw [← v10e] at g ⊢; exact i7 g
          refine s_aload_n kx_27_59 rfl ?_
          refine r_getK (k := 5) (f := 2) kx_27_60 kp_27_17 (tk_5 hT) kf_3_2 (fun _ => rfl) v10e ?_
          refine s_aload_n kx_27_63 rfl ?_
          refine r_getI (k := 5) (f := 5) kx_27_64 kp_27_26 (tk_5 hT) kf_3_5 (fun _ => rfl) (rg_5_5 hI2) (fun v53 v53e v53a v53b => ?_)
          have v53z : M 5 5 = v53 := ((fl2 5 5 rfl)).symm.trans v53e
          refine r_sub kx_27_67 ⟨by omega, by omega⟩ ?_
          refine s_istore_n kx_27_68 km_27_3 rfl ?_
          refine s_iload_n kx_27_69 rfl ?_
          refine s_bipush (v := 9) kx_27_70 (by decide) ?_
          refine s_icmp_ne (t := 94) kx_27_72 (by decide) (fun hc54 => ?_) (fun hc54 => ?_)
          · refine s_iload_n kx_27_94 rfl ?_
            refine s_bipush (v := 6) kx_27_95 (by decide) ?_
            refine s_icmp_le (t := 119) kx_27_97 (by decide) (fun hc55 => ?_) (fun hc55 => ?_)
            · have hp6 := owP6_of hE (by omega) (by omega) (hX (by omega)) (show v53 = b by omega)
              have hsh := owKw_short (s := s) (n := n) (b := b) (by omega)
              refine s_aload_n kx_27_119 rfl ?_
              refine s_lload_n kx_27_120 rfl ?_
              refine s_iconst (v := 5) kx_27_121 (by decide) ?_
              refine s_bipush (v := 6) kx_27_122 (by decide) ?_
              refine s_iload_n kx_27_124 rfl ?_
              refine r_sub kx_27_125 ⟨by omega, by omega⟩ ?_
              refine r_mul kx_27_126 ⟨by omega, by omega⟩ ?_
              refine s_lshl (z := (owShl x1_1 (5 * (6 - (v10 - v53))))) kx_27_127 rfl ?_
              refine r_l2iE kx_27_128 (by omega) (by omega) ?_
              refine r_put (k := 5) (f := 4) kx_27_129 kp_27_23 (tk_5 hT) kf_3_4 rfl (by decide) (by decide) hI2 ru_5_4 (fun M57 hI57 u57 => ?_)
              have hFm57 := hFm2.up u57 rfl
              refine s_aload_n kx_27_132 rfl ?_
              refine s_aload_n kx_27_133 rfl ?_
              refine r_getK (k := 5) (f := 4) kx_27_134 kp_27_23 (tk_5 hT) kf_3_4 (fun _ => rfl) u57.1 ?_
              refine s_callS2 (s1 := 1) (s2 := 1) (as := [(0, (owShl x1_1 (5 * (6 - (v10 - v53)))))]) (rest := [rf 5]) kx_27_137 kp_27_80 rfl kcl_29 rfl rfl (by decide) (f_29 (d := d) (w := (owShl x1_1 (5 * (6 - (v10 - v53))))) hT hI57) (kF (fun v58 v58p => ?_))
              refine s_if_eq (t := 147) kx_27_140 (by decide) (fun hc59 => ?_) (fun hc59 => ?_)
              · replace v58p := v58p.resolve_left (by omega)
                have hkk : owKw s n b = 2 := hsh.2.2 (by rw [← hp6.1]; exact v58p.2)
                refine s_iconst (v := 2) kx_27_147 (by decide) ?_
                refine r_put (k := 5) (f := 3) kx_27_148 kp_27_20 (tk_5 hT) kf_3_3 rfl (by decide) (by decide) hI57 (ru_5_3 (by omega) (by omega)) (fun M60 hI60 u60 => ?_)
                have hFm60 := hFm57.up u60 rfl
                have hk61 : M60 5 2 = v10 := ((u60.2 5 2 (by omega)).trans ((u57.2 5 2 (by omega)).trans v10e))
                have hk62 : M60 5 3 = 2 := u60.1
                have hk63 : M60 5 4 = (owShl x1_1 (5 * (6 - (v10 - v53)))) := ((u60.2 5 4 (by omega)).trans u57.1)
                have hf6 : M60 5 6 = 0 := ((((u60.2 5 6 (by omega)).trans ((u57.2 5 6 (by omega)).trans (fl2 5 6 rfl)))).trans h56)
                exact s_vret kx_27_151 kq_27 ⟨_, rfl, rfl, hI60, hFm60, ⟨by omega, fun _ => ⟨by omega, by omega, by omega⟩, fun g => absurd g (by omega), by omega⟩⟩
              · replace v58p := v58p.resolve_right (by omega)
                have hkk : owKw s n b = 1 := hsh.2.1 (by rw [← hp6.1]; exact v58p.2)
                refine s_iconst (v := 1) kx_27_143 (by decide) ?_
                refine s_goto (t := 148) kx_27_144 (by decide) ?_
                refine r_put (k := 5) (f := 3) kx_27_148 kp_27_20 (tk_5 hT) kf_3_3 rfl (by decide) (by decide) hI57 (ru_5_3 (by omega) (by omega)) (fun M64 hI64 u64 => ?_)
                have hFm64 := hFm57.up u64 rfl
                have hk65 : M64 5 2 = v10 := ((u64.2 5 2 (by omega)).trans ((u57.2 5 2 (by omega)).trans v10e))
                have hk66 : M64 5 3 = 1 := u64.1
                have hk67 : M64 5 4 = (owShl x1_1 (5 * (6 - (v10 - v53)))) := ((u64.2 5 4 (by omega)).trans u57.1)
                have hf6 : M64 5 6 = 0 := ((((u64.2 5 6 (by omega)).trans ((u57.2 5 6 (by omega)).trans (fl2 5 6 rfl)))).trans h56)
                exact s_vret kx_27_151 kq_27 ⟨_, rfl, rfl, hI64, hFm64, ⟨by omega, fun _ => ⟨by omega, by omega, by omega⟩, fun g => absurd g (by omega), by omega⟩⟩
            · have hf6 : M2 5 6 = 0 := (((fl2 5 6 rfl)).trans h56)
              have hlg := owKw_long (s := s) (n := n) (b := b) (by omega) (fun g => by first | (have g1 := g.1; omega) | (have g2 := g.2; omega))
              refine s_aload_n kx_27_100 rfl ?_
              refine s_iconst (v := 5) kx_27_101 (by decide) ?_
              refine r_put (k := 5) (f := 3) kx_27_102 kp_27_20 (tk_5 hT) kf_3_3 rfl (by decide) (by decide) hI2 (ru_5_3 (by omega) (by omega)) (fun M68 hI68 u68 => ?_)
              have hFm68 := hFm2.up u68 rfl
              refine s_aload_n kx_27_105 rfl ?_
              refine s_iconst (v := 1) kx_27_106 (by decide) ?_
              refine s_aload_n kx_27_107 rfl ?_
              refine r_getK (k := 5) (f := 5) kx_27_108 kp_27_26 (tk_5 hT) kf_3_5 (fun _ => rfl) ((u68.2 5 5 (by omega)).trans v53e) ?_
              refine s_bipush (v := 6) kx_27_111 (by decide) ?_
              refine r_add kx_27_113 ⟨by omega, by omega⟩ ?_
              have hf7 : M68 5 6 = 0 := ((((u68.2 5 6 (by omega)).trans (fl2 5 6 rfl))).trans h56)
              refine s_callV2 (k := 5) (s1 := 3) (s2 := 0) (as := [(0, (v53 + 6)), (0, 1)]) (rest := []) kx_27_114 kp_27_47 (Or.inl rfl) rfl (tk_5 hT) ki_20 kcl_20 rfl rfl (by decide) (f_20 (d := d) (kind := 1) (place := (v53 + 6)) hT hI68) (kW (fun v69 M70 hI70 fr70 v69p => ?_))
              have hFm70 := hFm68.call fr70 rfl
              have tr71 := (fr70 5 2 rfl)
              have tr72 := (fr70 5 3 rfl)
              refine s_pop kx_27_117 rfl ?_
              have hk73 : M70 5 2 = v10 := ((fr70 5 2 rfl).trans ((u68.2 5 2 (by omega)).trans v10e))
              have hk74 : M70 5 3 = 5 := ((fr70 5 3 rfl).trans u68.1)
              exact s_vret kx_27_118 kq_27 ⟨_, rfl, rfl, hI70, hFm70, ⟨by omega, fun g => absurd hlg g, fun _ => ⟨by omega, by omega⟩, by omega⟩⟩
          · refine s_lload_n kx_27_75 rfl ?_
            refine s_ldc2_w kx_27_76 kp_27_78 ?_
            have hX9 := hX (by omega)
            have hXr := owPk_r (m := 0) (s := s) (n := n) (b := b) (q := v10) (by omega) rfl (by omega)
            rw [← hX9] at hXr
            rw [show (v10 - b).toNat = 9 by omega] at hX9
            refine r_lcmpE kx_27_79 ⟨by omega, by omega⟩ ⟨by omega, by omega⟩ (fun v75 v75p => ?_)
            refine s_if_ne (t := 94) kx_27_80 (by decide) (fun hc76 => ?_) (fun hc76 => ?_)
            · refine s_iload_n kx_27_94 rfl ?_
              refine s_bipush (v := 6) kx_27_95 (by decide) ?_
              refine s_icmp_le (t := 119) kx_27_97 (by decide) (fun hc77 => absurd hc77 (by omega)) (fun hc77 => ?_)
              have hf6 : M2 5 6 = 0 := (((fl2 5 6 rfl)).trans h56)
              have hlg := owKw_long (s := s) (n := n) (b := b) (by omega) (fun g => by first | (have g1 := g.1; omega) | (have g2 := g.2; omega))
              refine s_aload_n kx_27_100 rfl ?_
              refine s_iconst (v := 5) kx_27_101 (by decide) ?_
              refine r_put (k := 5) (f := 3) kx_27_102 kp_27_20 (tk_5 hT) kf_3_3 rfl (by decide) (by decide) hI2 (ru_5_3 (by omega) (by omega)) (fun M78 hI78 u78 => ?_)
              have hFm78 := hFm2.up u78 rfl
              refine s_aload_n kx_27_105 rfl ?_
              refine s_iconst (v := 1) kx_27_106 (by decide) ?_
              refine s_aload_n kx_27_107 rfl ?_
              refine r_getK (k := 5) (f := 5) kx_27_108 kp_27_26 (tk_5 hT) kf_3_5 (fun _ => rfl) ((u78.2 5 5 (by omega)).trans v53e) ?_
              refine s_bipush (v := 6) kx_27_111 (by decide) ?_
              refine r_add kx_27_113 ⟨by omega, by omega⟩ ?_
              have hf7 : M78 5 6 = 0 := ((((u78.2 5 6 (by omega)).trans (fl2 5 6 rfl))).trans h56)
              refine s_callV2 (k := 5) (s1 := 3) (s2 := 0) (as := [(0, (v53 + 6)), (0, 1)]) (rest := []) kx_27_114 kp_27_47 (Or.inl rfl) rfl (tk_5 hT) ki_20 kcl_20 rfl rfl (by decide) (f_20 (d := d) (kind := 1) (place := (v53 + 6)) hT hI78) (kW (fun v79 M80 hI80 fr80 v79p => ?_))
              have hFm80 := hFm78.call fr80 rfl
              have tr81 := (fr80 5 2 rfl)
              have tr82 := (fr80 5 3 rfl)
              refine s_pop kx_27_117 rfl ?_
              have hk83 : M80 5 2 = v10 := ((fr80 5 2 rfl).trans ((u78.2 5 2 (by omega)).trans v10e))
              have hk84 : M80 5 3 = 5 := ((fr80 5 3 rfl).trans u78.1)
              exact s_vret kx_27_118 kq_27 ⟨_, rfl, rfl, hI80, hFm80, ⟨by omega, fun g => absurd hlg g, fun _ => ⟨by omega, by omega⟩, by omega⟩⟩
            · have hcp := owKw_cp (s := s) (n := n) (b := b) (by omega) (hX9.symm.trans (by omega))
              refine s_aload_n kx_27_83 rfl ?_
              refine s_iconst (v := 1) kx_27_84 (by decide) ?_
              refine r_put (k := 5) (f := 3) kx_27_85 kp_27_20 (tk_5 hT) kf_3_3 rfl (by decide) (by decide) hI2 (ru_5_3 (by omega) (by omega)) (fun M85 hI85 u85 => ?_)
              have hFm85 := hFm2.up u85 rfl
              refine s_aload_n kx_27_88 rfl ?_
              refine s_iconst (v := 1) kx_27_89 (by decide) ?_
              refine r_put (k := 5) (f := 4) kx_27_90 kp_27_23 (tk_5 hT) kf_3_4 rfl (by decide) (by decide) hI85 ru_5_4 (fun M86 hI86 u86 => ?_)
              have hFm86 := hFm85.up u86 rfl
              have hk87 : M86 5 2 = v10 := ((u86.2 5 2 (by omega)).trans ((u85.2 5 2 (by omega)).trans v10e))
              have hk88 : M86 5 3 = 1 := ((u86.2 5 3 (by omega)).trans u85.1)
              have hk89 : M86 5 4 = 1 := u86.1
              have hf6 : M86 5 6 = 0 := ((((u86.2 5 6 (by omega)).trans ((u85.2 5 6 (by omega)).trans (fl2 5 6 rfl)))).trans h56)
              exact s_vret kx_27_93 kq_27 ⟨_, rfl, rfl, hI86, hFm86, ⟨by omega, fun _ => ⟨by omega, by omega, by omega⟩, fun g => absurd g (by omega), by omega⟩⟩
        · replace v51p := v51p.resolve_right (by omega)
          refine s_lload_n kx_27_28 rfl ?_
          refine s_iconst (v := 5) kx_27_29 (by decide) ?_
          refine s_lshl (z := (owShl x1_1 5)) kx_27_30 rfl ?_
          refine s_aload_n kx_27_31 rfl ?_
          refine r_getR (k := 5) (f := 0) (k2 := 2) kx_27_32 kp_27_7 (tk_5 hT) kf_3_0 (by decide) ((fl2 5 0 rfl).trans h50) ?_
          refine s_aload_n kx_27_35 rfl ?_
          refine r_getK (k := 5) (f := 2) kx_27_36 kp_27_17 (tk_5 hT) kf_3_2 (fun _ => rfl) v10e ?_
          refine r_aldK (k := 2) kx_27_39 (tk_2 hT) ⟨by omega, by omega⟩ v50e ?_
          refine s_bipush (v := 31) kx_27_40 (by decide) ?_
          refine s_iand (z := (owAnd v50 31)) kx_27_42 rfl ?_
          refine s_i2l kx_27_43 ?_
          refine s_lor (z := (owLor (owShl x1_1 5) (owAnd v50 31))) kx_27_44 rfl ?_
          refine s_lstore_n kx_27_45 km_27_2 rfl ?_
          refine s_aload_n kx_27_46 rfl ?_
          refine s_dup kx_27_47 rfl ?_
          refine r_getK (k := 5) (f := 2) kx_27_48 kp_27_17 (tk_5 hT) kf_3_2 (fun _ => rfl) v10e ?_
          refine s_iconst (v := 1) kx_27_51 (by decide) ?_
          refine r_add kx_27_52 ⟨by omega, by omega⟩ ?_
          refine r_put (k := 5) (f := 2) kx_27_53 kp_27_17 (tk_5 hT) kf_3_2 rfl (by decide) (by decide) hI2 (ru_5_2 (by omega) (by omega)) (fun M93 hI93 u93 => ?_)
          have hFm93 := hFm2.up u93 rfl
          have hFl293 := fl2.up u93 rfl
          refine s_goto (t := 2) kx_27_56 (by decide) ?_
          have hk94 : M93 5 2 = (v10 + 1) := u93.1
          exact cP.wk (lS1 rfl (lS1 rfl lS0)) (ih9 (owLor (owShl x1_1 5) (owAnd v50 31)) M93 hI93 hFm93 hFl293 (by omega) (by rw [u93.1]; exact (owEw_step (show owEw s n v10 = owEw s n b by rw [← v10e]; exact i6) (by omega) v50s (by omega) (by omega)).1) (by rw [u93.1]; exact owPk_step (n := n) (by omega) (owEw_step (show owEw s n v10 = owEw s n b by rw [← v10e]; exact i6) (by omega) v50s (by omega) (by omega)).2 v50s (fun g => by rw [← v10e] at g ⊢; exact i7 g)) (by omega))
  exact cP.wk (lS1 rfl (lS1 rfl lS0)) (key3 _ 0 M hI hFm Fr.refl (by omega) (by rw [h52]) (fun _ => by rw [h52, Int.sub_self]; rfl) (Nat.lt_succ_self _))
def gS_28_l10 : List (Nat × Nat) := [(5, 2), (5, 3), (5, 4), (5, 6), (5, 7)]
def gS_28_m : List (Nat × Nat) := [(5, 2), (5, 3), (5, 4), (5, 6), (5, 7)]
theorem f_28 {xs : Nat → Int} {Ln d : Nat} {T : List cK} {M : cM} (hT : TT T) (hI : Rng M) (h50 : M 5 0 = ((2 : Nat) : Int)) {s : Nat → Int} {n b : Int} (hs : M 2 = s) (h51 : M 5 1 = n) (h52 : M 5 2 = b) (h55 : M 5 5 = b) (hbn : b < n) (hl : owDg (s b.toNat)) (h56 : M 5 6 = 0) : cC k_P xs Ln (d + 1) 28 [rf 5] (T, M) (qV T M gS_28_m (fun M1 => M1 5 3 = owKn s n b ∧ (owKn s n b ≠ 5 → M1 5 4 = owVn s n b ∧ M1 5 2 = owEn s n b ∧ M1 5 6 = 0) ∧ (owKn s n b = 5 → M1 5 6 = 1 ∧ M1 5 7 = b + 4) ∧ b ≤ M1 5 2)) := by
  show cP k_P xs Ln (d + 1) 28 0 [(0, rf 5)] [] (T, M) _
  have hFm : Fr gS_28_m M M := Fr.refl
  refine s_aload_n kx_28_0 rfl ?_
  refine s_iconst (v := 0) kx_28_1 (by decide) ?_
  refine r_put (k := 5) (f := 4) kx_28_2 kp_28_23 (tk_5 hT) kf_3_4 rfl (by decide) (by decide) hI ru_5_4 (fun M1 hI1 u1 => ?_)
  have hFm1 := hFm.up u1 rfl
  refine s_aload_n kx_28_5 rfl ?_
  refine s_iconst (v := 3) kx_28_6 (by decide) ?_
  refine r_put (k := 5) (f := 3) kx_28_7 kp_28_20 (tk_5 hT) kf_3_3 rfl (by decide) (by decide) hI1 (ru_5_3 (by omega) (by omega)) (fun M2 hI2 u2 => ?_)
  have hFm2 := hFm1.up u2 rfl
  have key4 : ∀ n5 : Nat, ∀ M3 : cM, Rng M3 → Fr gS_28_m M M3 → Fr gS_28_l10 M2 M3 → (b ≤ M3 5 2) → (M3 5 2 - b ≤ 4) → (owEn s n (M3 5 2) = owEn s n b) → (M3 5 4 = owPn (owS s b) (M3 5 2 - b).toNat) → (M3 5 3 = 3) → (M3 5 6 = 0) → (1600 - M3 5 2).toNat < n5 → cP k_P xs Ln (d + 1) 28 10 [(0, rf 5)] [] (T, M3) (qV T M gS_28_m (fun M1 => M1 5 3 = owKn s n b ∧ (owKn s n b ≠ 5 → M1 5 4 = owVn s n b ∧ M1 5 2 = owEn s n b ∧ M1 5 6 = 0) ∧ (owKn s n b = 5 → M1 5 6 = 1 ∧ M1 5 7 = b + 4) ∧ b ≤ M1 5 2)) := by
    intro n5
    induction n5 with
    | zero => intro M3 hI3 hFm3 fl3 i6 i7 i8 i9 i10 i11 hm12; exact absurd hm12 (Nat.not_lt_zero _)
    | succ n5 ih13 =>
      intro M3 hI3 hFm3 fl3 i6 i7 i8 i9 i10 i11 hm12
      refine s_aload_n kx_28_10 rfl ?_
      refine r_getI (k := 5) (f := 2) kx_28_11 kp_28_17 (tk_5 hT) kf_3_2 (fun _ => rfl) (rg_5_2 hI3) (fun v14 v14e v14a v14b => ?_)
      refine s_aload_n kx_28_14 rfl ?_
      refine r_getI (k := 5) (f := 1) kx_28_15 kp_28_13 (tk_5 hT) kf_3_1 (fun _ => rfl) (rg_5_1 hI3) (fun v15 v15e v15a v15b => ?_)
      have v15z : M 5 1 = v15 := (((fl3 5 1 rfl).trans ((u2.2 5 1 (by omega)).trans (u1.2 5 1 (by omega))))).symm.trans v15e
      refine s_icmp_ge (t := 102) kx_28_18 (by decide) (fun hc16 => ?_) (fun hc16 => ?_)
      · have hE : owEn s n b = v14 := owEn_stop (show owEn s n v14 = owEn s n b by rw [← v14e]; exact i8) (Or.inl (by omega))
        have hkk : owKn s n b = 3 := if_neg (by omega)
        have hvv : M3 5 4 = owVn s n b := by unfold owVn; rw [hE, ← v14e]; exact i9
        have hf6 : M3 5 6 = 0 := i11
        have hk17 : M3 5 2 = v14 := v14e
        exact s_vret kx_28_102 kq_28 ⟨_, rfl, rfl, hI3, hFm3, ⟨by omega, fun _ => ⟨hvv, by omega, by omega⟩, fun g => absurd g (by omega), by omega⟩⟩
      · refine s_aload_n kx_28_21 rfl ?_
        refine r_getR (k := 5) (f := 0) (k2 := 2) kx_28_22 kp_28_7 (tk_5 hT) kf_3_0 (by decide) ((fl3 5 0 rfl).trans ((u2.2 5 0 (by omega)).trans ((u1.2 5 0 (by omega)).trans h50))) ?_
        refine s_aload_n kx_28_25 rfl ?_
        refine r_getK (k := 5) (f := 2) kx_28_26 kp_28_17 (tk_5 hT) kf_3_2 (fun _ => rfl) v14e ?_
        refine r_ald (k := 2) kx_28_29 (tk_2 hT) ⟨by omega, by omega⟩ (rg_2 hI3) (fun v18 v18e v18a v18b => ?_)
        have v18s : s (v14).toNat = v18 := (congrFun hs (v14).toNat).symm.trans ((((fl3 2 _ rfl).trans ((u2.2 2 _ (by omega)).trans (u1.2 2 _ (by omega))))).symm.trans v18e)
        refine s_callS2 (s1 := 1) (s2 := 0) (as := [(0, v18)]) (rest := []) kx_28_30 kp_28_69 rfl kcl_31 rfl rfl (by decide) (m_31 (d := d) (c := v18) hT hI3) (kF (fun v19 v19p => ?_))
        refine s_if_eq (t := 102) kx_28_33 (by decide) (fun hc20 => ?_) (fun hc20 => ?_)
        · replace v19p := v19p.resolve_left (by omega)
          have hE : owEn s n b = v14 := owEn_stop (show owEn s n v14 = owEn s n b by rw [← v14e]; exact i8) (Or.inr (by rw [v18s]; omega))
          have hkk : owKn s n b = 3 := if_neg (by omega)
          have hvv : M3 5 4 = owVn s n b := by unfold owVn; rw [hE, ← v14e]; exact i9
          have hf6 : M3 5 6 = 0 := i11
          have hk21 : M3 5 2 = v14 := v14e
          exact s_vret kx_28_102 kq_28 ⟨_, rfl, rfl, hI3, hFm3, ⟨by omega, fun _ => ⟨hvv, by omega, by omega⟩, fun g => absurd g (by omega), by omega⟩⟩
        · replace v19p := v19p.resolve_right (by omega)
          have hEs := owEn_step (show owEn s n v14 = owEn s n b by rw [← v14e]; exact i8) (by omega) v18s (by omega) (by omega)
          refine s_aload_n kx_28_36 rfl ?_
          refine r_getK (k := 5) (f := 2) kx_28_37 kp_28_17 (tk_5 hT) kf_3_2 (fun _ => rfl) v14e ?_
          refine s_aload_n kx_28_40 rfl ?_
          refine r_getI (k := 5) (f := 5) kx_28_41 kp_28_26 (tk_5 hT) kf_3_5 (fun _ => rfl) (rg_5_5 hI3) (fun v22 v22e v22a v22b => ?_)
          have v22z : M 5 5 = v22 := (((fl3 5 5 rfl).trans ((u2.2 5 5 (by omega)).trans (u1.2 5 5 (by omega))))).symm.trans v22e
          refine r_sub kx_28_44 ⟨by omega, by omega⟩ ?_
          refine s_iconst (v := 4) kx_28_45 (by decide) ?_
          refine s_icmp_ne (t := 65) kx_28_46 (by decide) (fun hc23 => ?_) (fun hc23 => ?_)
          · refine s_aload_n kx_28_65 rfl ?_
            refine s_aload_n kx_28_66 rfl ?_
            refine r_getU (k := 5) (f := 4) kx_28_67 kp_28_23 (tk_5 hT) kf_3_4 (fun _ => rfl) (fun v24 v24e => ?_)
            have hXv : v24 = owPn (owS s b) (v14 - b).toNat := by rw [← v24e, ← v14e]; exact i9
            have hXr := owPn_r (s := s) (n := n) (b := b) (q := v14) (by omega) rfl (by omega)
            rw [← hXv] at hXr
            refine s_bipush (v := 10) kx_28_70 (by decide) ?_
            refine r_mul kx_28_72 ⟨by omega, by omega⟩ ?_
            refine s_aload_n kx_28_73 rfl ?_
            refine r_getR (k := 5) (f := 0) (k2 := 2) kx_28_74 kp_28_7 (tk_5 hT) kf_3_0 (by decide) ((fl3 5 0 rfl).trans ((u2.2 5 0 (by omega)).trans ((u1.2 5 0 (by omega)).trans h50))) ?_
            refine s_aload_n kx_28_77 rfl ?_
            refine r_getK (k := 5) (f := 2) kx_28_78 kp_28_17 (tk_5 hT) kf_3_2 (fun _ => rfl) v14e ?_
            refine r_aldK (k := 2) kx_28_81 (tk_2 hT) ⟨by omega, by omega⟩ v18e ?_
            refine r_add kx_28_82 ⟨by omega, by omega⟩ ?_
            refine s_bipush (v := 48) kx_28_83 (by decide) ?_
            refine r_sub kx_28_85 ⟨by omega, by omega⟩ ?_
            refine r_put (k := 5) (f := 4) kx_28_86 kp_28_23 (tk_5 hT) kf_3_4 rfl (by decide) (by decide) hI3 ru_5_4 (fun M25 hI25 u25 => ?_)
            have hFm25 := hFm3.up u25 rfl
            have hFl1025 := fl3.up u25 rfl
            refine s_aload_n kx_28_89 rfl ?_
            refine s_dup kx_28_90 rfl ?_
            refine r_getK (k := 5) (f := 2) kx_28_91 kp_28_17 (tk_5 hT) kf_3_2 (fun _ => rfl) ((u25.2 5 2 (by omega)).trans v14e) ?_
            refine s_iconst (v := 1) kx_28_94 (by decide) ?_
            refine r_add kx_28_95 ⟨by omega, by omega⟩ ?_
            refine r_put (k := 5) (f := 2) kx_28_96 kp_28_17 (tk_5 hT) kf_3_2 rfl (by decide) (by decide) hI25 (ru_5_2 (by omega) (by omega)) (fun M26 hI26 u26 => ?_)
            have hFm26 := hFm25.up u26 rfl
            have hFl1026 := hFl1025.up u26 rfl
            refine s_goto (t := 10) kx_28_99 (by decide) ?_
            have hk27 : M26 5 2 = (v14 + 1) := u26.1
            have tb28 := (u26.2 5 3 (by omega))
            have tb29 := (u25.2 5 3 (by omega))
            exact cP.wk (lS1 rfl lS0) (ih13 M26 hI26 hFm26 hFl1026 (by omega) (by omega) (by rw [u26.1]; exact hEs.1) (by rw [((u26.2 5 4 (by omega)).trans u25.1), u26.1]; exact owPn_step (by omega) v18s hXv) (by omega) ((u26.2 5 6 (by omega)).trans ((u25.2 5 6 (by omega)).trans i11)) (by omega))
          · have hkk : owKn s n b = 5 := if_pos (by omega)
            have hf6 : M3 5 6 = 0 := i11
            refine s_aload_n kx_28_49 rfl ?_
            refine s_iconst (v := 5) kx_28_50 (by decide) ?_
            refine r_put (k := 5) (f := 3) kx_28_51 kp_28_20 (tk_5 hT) kf_3_3 rfl (by decide) (by decide) hI3 (ru_5_3 (by omega) (by omega)) (fun M30 hI30 u30 => ?_)
            have hFm30 := hFm3.up u30 rfl
            have hFl1030 := fl3.up u30 rfl
            refine s_aload_n kx_28_54 rfl ?_
            refine s_iconst (v := 1) kx_28_55 (by decide) ?_
            refine s_aload_n kx_28_56 rfl ?_
            refine r_getK (k := 5) (f := 2) kx_28_57 kp_28_17 (tk_5 hT) kf_3_2 (fun _ => rfl) ((u30.2 5 2 (by omega)).trans v14e) ?_
            have hf7 : M30 5 6 = 0 := ((u30.2 5 6 (by omega)).trans i11)
            refine s_callV2 (k := 5) (s1 := 3) (s2 := 0) (as := [(0, v14), (0, 1)]) (rest := []) kx_28_60 kp_28_47 (Or.inl rfl) rfl (tk_5 hT) ki_20 kcl_20 rfl rfl (by decide) (f_20 (d := d) (kind := 1) (place := v14) hT hI30) (kW (fun v31 M32 hI32 fr32 v31p => ?_))
            have hFm32 := hFm30.call fr32 rfl
            have hFl1032 := hFl1030.call fr32 rfl
            have tr33 := (fr32 5 2 rfl)
            have tr34 := (fr32 5 3 rfl)
            refine s_pop kx_28_63 rfl ?_
            have hk35 : M32 5 2 = v14 := ((fr32 5 2 rfl).trans ((u30.2 5 2 (by omega)).trans v14e))
            have hk36 : M32 5 3 = 5 := ((fr32 5 3 rfl).trans u30.1)
            exact s_vret kx_28_64 kq_28 ⟨_, rfl, rfl, hI32, hFm32, ⟨by omega, fun g => absurd hkk g, fun _ => ⟨by omega, by omega⟩, by omega⟩⟩
  have hen2 : M2 5 2 = M 5 2 := ((u2.2 5 2 (by omega)).trans (u1.2 5 2 (by omega)))
  have hk37 : M2 5 3 = 3 := u2.1
  exact cP.wk (lS1 rfl lS0) (key4 _ M2 hI2 hFm2 Fr.refl (by omega) (by omega) (by rw [((u2.2 5 2 (by omega)).trans (u1.2 5 2 (by omega))), h52]) (by rw [((u2.2 5 2 (by omega)).trans (u1.2 5 2 (by omega))), h52, Int.sub_self, ((u2.2 5 4 (by omega)).trans u1.1)]; rfl) (by omega) ((((u2.2 5 6 (by omega)).trans (u1.2 5 6 (by omega)))).trans h56) (Nat.lt_succ_self _))
def gS_26_m : List (Nat × Nat) := [(5, 2), (5, 3), (5, 4), (5, 5), (5, 6), (5, 7)]
def gS_26_j10 : List (Nat × Nat) := []
theorem f_26 {xs : Nat → Int} {Ln d : Nat} {T : List cK} {M : cM} (hT : TT T) (hI : Rng M) (h50 : M 5 0 = ((2 : Nat) : Int)) {s : Nat → Int} {n p : Int} (hP : LxP M s n p) : cC k_P xs Ln (d + 2) 26 [rf 5] (T, M) (qV T M gS_26_m (fun M1 => LxA M1 s n p ∧ M 5 2 ≤ M1 5 2 ∧ (M1 5 3 = 0 ∨ M1 5 3 = 5 ∨ M 5 2 + 1 ≤ M1 5 2))) := by
  show cP k_P xs Ln (d + 2) 26 0 [(0, rf 5)] [] (T, M) _
  have hFm : Fr gS_26_m M M := Fr.refl
  have hmid := hP.mid
  have h51r := rg_5_1 hI
  have ⟨hs, h51, h0, hpl, hpb, hpn, h56, hk⟩ := hP
  refine s_aload_n kx_26_0 rfl ?_
  refine r_getI (k := 5) (f := 2) kx_26_1 kp_26_17 (tk_5 hT) kf_3_2 (fun _ => rfl) (rg_5_2 hI) (fun v1 v1e v1a v1b => ?_)
  refine s_istore_n kx_26_4 km_26_1 rfl ?_
  refine s_aload_n kx_26_5 rfl ?_
  refine r_getI (k := 5) (f := 3) kx_26_6 kp_26_20 (tk_5 hT) kf_3_3 (fun _ => rfl) (rg_5_3 hI) (fun v2 v2e v2a v2b => ?_)
  refine s_iconst (v := 1) kx_26_9 (by decide) ?_
  have jn9 : ∀ (y8 : Int), (0 ≤ y8) → (y8 ≤ 1) → ((y8 = 1 ∧ 1 ≤ M 5 3 ∧ M 5 3 ≤ 3) ∨ (y8 = 0 ∧ (M 5 3 < 1 ∨ 3 < M 5 3))) → cP k_P xs Ln (d + 2) 26 34 [(0, rf 5), (1, (0, v1))] [(0, y8)] (T, M) (qV T M gS_26_m (fun M1 => LxA M1 s n p ∧ M 5 2 ≤ M1 5 2 ∧ (M1 5 3 = 0 ∨ M1 5 3 = 5 ∨ M 5 2 + 1 ≤ M1 5 2))) := by
    intro y8 a10 a11 a12
    refine s_istore_n kx_26_34 km_26_2 rfl ?_
    refine s_aload_n kx_26_35 rfl ?_
    refine s_callV2 (k := 5) (s1 := 1) (s2 := 0) (as := []) (rest := []) kx_26_36 kp_26_62 (Or.inl rfl) rfl (tk_5 hT) ki_25 kcl_25 rfl rfl (by decide) (f_25 (d := d + 1) hT hI h50 hs h51 hmid) (kW (fun v13 M14 hI14 fr14 v13p => ?_))
    have hFm14 := hFm.call fr14 rfl
    have tr15 := (fr14 5 3 rfl)
    have tr16 := (fr14 5 5 rfl)
    have tr17 := rg_5_1 hI14
    have hat := v13p.1
    have hat2 := v13p.2
    refine s_istore_n kx_26_39 km_26_3 rfl ?_
    refine s_aload_n kx_26_40 rfl ?_
    refine s_aload_n kx_26_41 rfl ?_
    refine r_getI (k := 5) (f := 2) kx_26_42 kp_26_17 (tk_5 hT) kf_3_2 (fun _ => rfl) (rg_5_2 hI14) (fun v18 v18e v18a v18b => ?_)
    refine r_put (k := 5) (f := 5) kx_26_45 kp_26_26 (tk_5 hT) kf_3_5 rfl (by decide) (by decide) hI14 (ru_5_5 (by omega) (by omega)) (fun M19 hI19 u19 => ?_)
    have hFm19 := hFm14.up u19 rfl
    have tr20 := (u19.2 5 2 (by omega))
    have tr21 := (u19.2 5 3 (by omega))
    have tr22 := u19.1
    have tr23 := (u19.2 5 6 (by omega))
    refine s_iload_n kx_26_48 rfl ?_
    refine s_if_eq (t := 58) kx_26_49 (by decide) (fun hc24 => ?_) (fun hc24 => ?_)
    · have hbn : owB s n p < n := by omega
      refine s_aload_n kx_26_58 rfl ?_
      refine r_getR (k := 5) (f := 0) (k2 := 2) kx_26_59 kp_26_7 (tk_5 hT) kf_3_0 (by decide) ((u19.2 5 0 (by omega)).trans ((fr14 5 0 rfl).trans h50)) ?_
      refine s_aload_n kx_26_62 rfl ?_
      refine r_getK (k := 5) (f := 2) kx_26_63 kp_26_17 (tk_5 hT) kf_3_2 (fun _ => rfl) ((u19.2 5 2 (by omega)).trans v18e) ?_
      refine r_ald (k := 2) kx_26_66 (tk_2 hT) ⟨by omega, by omega⟩ (rg_2 hI19) (fun v25 v25e v25a v25b => ?_)
      have v25s : s (v18).toNat = v25 := (congrFun hs (v18).toNat).symm.trans ((((u19.2 2 _ (by omega)).trans (fr14 2 _ rfl))).symm.trans v25e)
      refine s_callS2 (s1 := 1) (s2 := 0) (as := [(0, v25)]) (rest := []) kx_26_67 kp_26_65 rfl kcl_30 rfl rfl (by decide) (m_30 (d := d + 1) (c := v25) hT hI19) (kF (fun v26 v26p => ?_))
      refine s_istore kx_26_70 km_26_4 rfl ?_
      refine s_iload kx_26_72 rfl ?_
      refine s_if_ne (t := 123) kx_26_74 (by decide) (fun hc27 => ?_) (fun hc27 => ?_)
      · replace v26p := v26p.resolve_right (by omega)
        refine s_iload_n kx_26_123 rfl ?_
        refine s_if_eq (t := 148) kx_26_124 (by decide) (fun hc28 => ?_) (fun hc28 => ?_)
        · refine s_iload kx_26_148 rfl ?_
          refine s_if_eq (t := 160) kx_26_150 (by decide) (fun hc29 => absurd hc29 (by omega)) (fun hc29 => ?_)
          have hcb : s (owB s n p).toNat = v25 := by rw [show owB s n p = v18 by omega]; exact v25s
          refine s_aload_n kx_26_153 rfl ?_
          have hk30 : M19 5 2 = v18 := ((u19.2 5 2 (by omega)).trans v18e)
          have hk31 : M19 5 5 = v18 := u19.1
          refine s_callV2 (k := 5) (s1 := 1) (s2 := 0) (as := []) (rest := []) kx_26_154 kp_26_72 (Or.inl rfl) rfl (tk_5 hT) ki_27 kcl_27 rfl rfl (by decide) (f_27 (d := d) hT hI19 ((u19.2 5 0 (by omega)).trans ((fr14 5 0 rfl).trans h50)) (b := owB s n p) ((funext fun i => ((u19.2 2 i (by omega)).trans (fr14 2 i rfl))).trans hs) ((((u19.2 5 1 (by omega)).trans (fr14 5 1 rfl))).trans h51) (by omega) (by omega) (by omega) (by rw [hcb]; exact ⟨by omega, by omega⟩) ((((u19.2 5 6 (by omega)).trans (fr14 5 6 rfl))).trans h56)) (kV (fun M33 hI33 fr33 v32p => ?_))
          have hFm33 := hFm19.call fr33 rfl
          have tr34 := (fr33 5 5 rfl)
          have tr35 := rg_5_1 hI33
          have tr36 := v32p.1
          have tr37 := v32p.2.2.2
          refine s_goto (t := 164) kx_26_157 (by decide) ?_
          have hk38 : M33 5 5 = v18 := ((fr33 5 5 rfl).trans u19.1)
          have hew := owEw_in hbn (show owLt (s (owB s n p).toNat) by rw [hcb]; exact ⟨by omega, by omega⟩)
          have hwr := owKw_rng (s := s) (n := n) (b := owB s n p)
          have hwg := v32p.2.1
          exact s_vret kx_26_164 kq_26 ⟨_, rfl, rfl, hI33, hFm33, ⟨(LxA.ew ((funext fun i => ((fr33 2 i rfl).trans ((u19.2 2 i (by omega)).trans (fr14 2 i rfl)))).trans hs) ((((fr33 5 1 rfl).trans ((u19.2 5 1 (by omega)).trans (fr14 5 1 rfl)))).trans h51) h0 hpn (by omega) hbn (by rw [hcb]; exact ⟨by omega, by omega⟩) (fun g => by have := (hP.ad hbn).mp g; omega) v32p.1 v32p.2.1 v32p.2.2.1), by omega, by omega⟩⟩
        · refine s_aload_n kx_26_127 rfl ?_
          refine r_getK (k := 5) (f := 5) kx_26_128 kp_26_26 (tk_5 hT) kf_3_5 (fun _ => rfl) u19.1 ?_
          refine s_iload_n kx_26_131 rfl ?_
          refine s_icmp_ne (t := 148) kx_26_132 (by decide) (fun hc39 => ?_) (fun hc39 => ?_)
          · refine s_iload kx_26_148 rfl ?_
            refine s_if_eq (t := 160) kx_26_150 (by decide) (fun hc40 => absurd hc40 (by omega)) (fun hc40 => ?_)
            have hcb : s (owB s n p).toNat = v25 := by rw [show owB s n p = v18 by omega]; exact v25s
            refine s_aload_n kx_26_153 rfl ?_
            have hk41 : M19 5 2 = v18 := ((u19.2 5 2 (by omega)).trans v18e)
            have hk42 : M19 5 5 = v18 := u19.1
            refine s_callV2 (k := 5) (s1 := 1) (s2 := 0) (as := []) (rest := []) kx_26_154 kp_26_72 (Or.inl rfl) rfl (tk_5 hT) ki_27 kcl_27 rfl rfl (by decide) (f_27 (d := d) hT hI19 ((u19.2 5 0 (by omega)).trans ((fr14 5 0 rfl).trans h50)) (b := owB s n p) ((funext fun i => ((u19.2 2 i (by omega)).trans (fr14 2 i rfl))).trans hs) ((((u19.2 5 1 (by omega)).trans (fr14 5 1 rfl))).trans h51) (by omega) (by omega) (by omega) (by rw [hcb]; exact ⟨by omega, by omega⟩) ((((u19.2 5 6 (by omega)).trans (fr14 5 6 rfl))).trans h56)) (kV (fun M44 hI44 fr44 v43p => ?_))
            have hFm44 := hFm19.call fr44 rfl
            have tr45 := (fr44 5 5 rfl)
            have tr46 := rg_5_1 hI44
            have tr47 := v43p.1
            have tr48 := v43p.2.2.2
            refine s_goto (t := 164) kx_26_157 (by decide) ?_
            have hk49 : M44 5 5 = v18 := ((fr44 5 5 rfl).trans u19.1)
            have hew := owEw_in hbn (show owLt (s (owB s n p).toNat) by rw [hcb]; exact ⟨by omega, by omega⟩)
            have hwr := owKw_rng (s := s) (n := n) (b := owB s n p)
            have hwg := v43p.2.1
            exact s_vret kx_26_164 kq_26 ⟨_, rfl, rfl, hI44, hFm44, ⟨(LxA.ew ((funext fun i => ((fr44 2 i rfl).trans ((u19.2 2 i (by omega)).trans (fr14 2 i rfl)))).trans hs) ((((fr44 5 1 rfl).trans ((u19.2 5 1 (by omega)).trans (fr14 5 1 rfl)))).trans h51) h0 hpn (by omega) hbn (by rw [hcb]; exact ⟨by omega, by omega⟩) (fun g => by have := (hP.ad hbn).mp g; omega) v43p.1 v43p.2.1 v43p.2.2.1), by omega, by omega⟩⟩
          · have hcb : s (owB s n p).toNat = v25 := by rw [show owB s n p = v18 by omega]; exact v25s
            refine s_aload_n kx_26_135 rfl ?_
            refine s_iconst (v := 5) kx_26_136 (by decide) ?_
            refine r_put (k := 5) (f := 3) kx_26_137 kp_26_20 (tk_5 hT) kf_3_3 rfl (by decide) (by decide) hI19 (ru_5_3 (by omega) (by omega)) (fun M50 hI50 u50 => ?_)
            have hFm50 := hFm19.up u50 rfl
            have tr51 := (u50.2 5 2 (by omega))
            have tr52 := u50.1
            have tr53 := (u50.2 5 5 (by omega))
            have tr54 := (u50.2 5 6 (by omega))
            refine s_aload_n kx_26_140 rfl ?_
            have hf6 : M50 5 6 = 0 := ((((u50.2 5 6 (by omega)).trans ((u19.2 5 6 (by omega)).trans (fr14 5 6 rfl)))).trans h56)
            have hk55 : M50 5 5 = v18 := ((u50.2 5 5 (by omega)).trans u19.1)
            refine s_callV2 (k := 5) (s1 := 1) (s2 := 0) (as := []) (rest := []) kx_26_141 kp_26_55 (Or.inl rfl) rfl (tk_5 hT) ki_21 kcl_21 rfl rfl (by decide) (f_21 (d := d) hT hI50) (kW (fun v56 M57 hI57 fr57 v56p => ?_))
            have hFm57 := hFm50.call fr57 rfl
            have tr58 := (fr57 5 2 rfl)
            have tr59 := (fr57 5 3 rfl)
            have tr60 := (fr57 5 5 rfl)
            have tr61 := rg_5_1 hI57
            refine s_pop kx_26_144 rfl ?_
            refine s_goto (t := 164) kx_26_145 (by decide) ?_
            have hk62 : M57 5 2 = v18 := ((fr57 5 2 rfl).trans ((u50.2 5 2 (by omega)).trans ((u19.2 5 2 (by omega)).trans v18e)))
            have hk63 : M57 5 3 = 5 := ((fr57 5 3 rfl).trans u50.1)
            have hk64 : M57 5 5 = v18 := ((fr57 5 5 rfl).trans ((u50.2 5 5 (by omega)).trans u19.1))
            exact s_vret kx_26_164 kq_26 ⟨_, rfl, rfl, hI57, hFm57, ⟨(LxA.e5 ((funext fun i => ((fr57 2 i rfl).trans ((u50.2 2 i (by omega)).trans ((u19.2 2 i (by omega)).trans (fr14 2 i rfl))))).trans hs) ((((fr57 5 1 rfl).trans ((u50.2 5 1 (by omega)).trans ((u19.2 5 1 (by omega)).trans (fr14 5 1 rfl))))).trans h51) h0 hpn (by omega) hbn (by rw [hcb]; omega) ((hP.ad hbn).mpr ⟨⟨by omega, by omega⟩, by omega⟩) (by omega) (by omega) (by omega)), by omega, by omega⟩⟩
      · replace v26p := v26p.resolve_left (by omega)
        refine s_aload_n kx_26_77 rfl ?_
        refine r_getR (k := 5) (f := 0) (k2 := 2) kx_26_78 kp_26_7 (tk_5 hT) kf_3_0 (by decide) ((u19.2 5 0 (by omega)).trans ((fr14 5 0 rfl).trans h50)) ?_
        refine s_aload_n kx_26_81 rfl ?_
        refine r_getK (k := 5) (f := 2) kx_26_82 kp_26_17 (tk_5 hT) kf_3_2 (fun _ => rfl) ((u19.2 5 2 (by omega)).trans v18e) ?_
        refine r_aldK (k := 2) kx_26_85 (tk_2 hT) ⟨by omega, by omega⟩ v25e ?_
        refine s_callS2 (s1 := 1) (s2 := 0) (as := [(0, v25)]) (rest := []) kx_26_86 kp_26_69 rfl kcl_31 rfl rfl (by decide) (m_31 (d := d + 1) (c := v25) hT hI19) (kF (fun v65 v65p => ?_))
        refine s_if_ne (t := 123) kx_26_89 (by decide) (fun hc66 => ?_) (fun hc66 => ?_)
        · replace v65p := v65p.resolve_right (by omega)
          refine s_iload_n kx_26_123 rfl ?_
          refine s_if_eq (t := 148) kx_26_124 (by decide) (fun hc67 => ?_) (fun hc67 => ?_)
          · refine s_iload kx_26_148 rfl ?_
            refine s_if_eq (t := 160) kx_26_150 (by decide) (fun hc68 => ?_) (fun hc68 => absurd hc68 (by omega))
            have hcb : s (owB s n p).toNat = v25 := by rw [show owB s n p = v18 by omega]; exact v25s
            refine s_aload_n kx_26_160 rfl ?_
            have hk69 : M19 5 2 = v18 := ((u19.2 5 2 (by omega)).trans v18e)
            have hk70 : M19 5 5 = v18 := u19.1
            refine s_callV2 (k := 5) (s1 := 1) (s2 := 0) (as := []) (rest := []) kx_26_161 kp_26_75 (Or.inl rfl) rfl (tk_5 hT) ki_28 kcl_28 rfl rfl (by decide) (f_28 (d := d) hT hI19 ((u19.2 5 0 (by omega)).trans ((fr14 5 0 rfl).trans h50)) (b := owB s n p) ((funext fun i => ((u19.2 2 i (by omega)).trans (fr14 2 i rfl))).trans hs) ((((u19.2 5 1 (by omega)).trans (fr14 5 1 rfl))).trans h51) (by omega) (by omega) (by omega) (by rw [hcb]; exact ⟨by omega, by omega⟩) ((((u19.2 5 6 (by omega)).trans (fr14 5 6 rfl))).trans h56)) (kV (fun M72 hI72 fr72 v71p => ?_))
            have hFm72 := hFm19.call fr72 rfl
            have tr73 := (fr72 5 5 rfl)
            have tr74 := rg_5_1 hI72
            have tr75 := v71p.1
            have tr76 := v71p.2.2.2
            have hk77 : M72 5 5 = v18 := ((fr72 5 5 rfl).trans u19.1)
            have hew := owEn_in hbn (show owDg (s (owB s n p).toNat) by rw [hcb]; exact ⟨by omega, by omega⟩)
            have hwr := owKn_rng (s := s) (n := n) (b := owB s n p)
            have hwg := v71p.2.1
            exact s_vret kx_26_164 kq_26 ⟨_, rfl, rfl, hI72, hFm72, ⟨(LxA.en ((funext fun i => ((fr72 2 i rfl).trans ((u19.2 2 i (by omega)).trans (fr14 2 i rfl)))).trans hs) ((((fr72 5 1 rfl).trans ((u19.2 5 1 (by omega)).trans (fr14 5 1 rfl)))).trans h51) h0 hpn (by omega) hbn (by rw [hcb]; omega) (by rw [hcb]; exact ⟨by omega, by omega⟩) (fun g => by have := (hP.ad hbn).mp g; omega) v71p.1 v71p.2.1 v71p.2.2.1), by omega, by omega⟩⟩
          · refine s_aload_n kx_26_127 rfl ?_
            refine r_getK (k := 5) (f := 5) kx_26_128 kp_26_26 (tk_5 hT) kf_3_5 (fun _ => rfl) u19.1 ?_
            refine s_iload_n kx_26_131 rfl ?_
            refine s_icmp_ne (t := 148) kx_26_132 (by decide) (fun hc78 => ?_) (fun hc78 => ?_)
            · refine s_iload kx_26_148 rfl ?_
              refine s_if_eq (t := 160) kx_26_150 (by decide) (fun hc79 => ?_) (fun hc79 => absurd hc79 (by omega))
              have hcb : s (owB s n p).toNat = v25 := by rw [show owB s n p = v18 by omega]; exact v25s
              refine s_aload_n kx_26_160 rfl ?_
              have hk80 : M19 5 2 = v18 := ((u19.2 5 2 (by omega)).trans v18e)
              have hk81 : M19 5 5 = v18 := u19.1
              refine s_callV2 (k := 5) (s1 := 1) (s2 := 0) (as := []) (rest := []) kx_26_161 kp_26_75 (Or.inl rfl) rfl (tk_5 hT) ki_28 kcl_28 rfl rfl (by decide) (f_28 (d := d) hT hI19 ((u19.2 5 0 (by omega)).trans ((fr14 5 0 rfl).trans h50)) (b := owB s n p) ((funext fun i => ((u19.2 2 i (by omega)).trans (fr14 2 i rfl))).trans hs) ((((u19.2 5 1 (by omega)).trans (fr14 5 1 rfl))).trans h51) (by omega) (by omega) (by omega) (by rw [hcb]; exact ⟨by omega, by omega⟩) ((((u19.2 5 6 (by omega)).trans (fr14 5 6 rfl))).trans h56)) (kV (fun M83 hI83 fr83 v82p => ?_))
              have hFm83 := hFm19.call fr83 rfl
              have tr84 := (fr83 5 5 rfl)
              have tr85 := rg_5_1 hI83
              have tr86 := v82p.1
              have tr87 := v82p.2.2.2
              have hk88 : M83 5 5 = v18 := ((fr83 5 5 rfl).trans u19.1)
              have hew := owEn_in hbn (show owDg (s (owB s n p).toNat) by rw [hcb]; exact ⟨by omega, by omega⟩)
              have hwr := owKn_rng (s := s) (n := n) (b := owB s n p)
              have hwg := v82p.2.1
              exact s_vret kx_26_164 kq_26 ⟨_, rfl, rfl, hI83, hFm83, ⟨(LxA.en ((funext fun i => ((fr83 2 i rfl).trans ((u19.2 2 i (by omega)).trans (fr14 2 i rfl)))).trans hs) ((((fr83 5 1 rfl).trans ((u19.2 5 1 (by omega)).trans (fr14 5 1 rfl)))).trans h51) h0 hpn (by omega) hbn (by rw [hcb]; omega) (by rw [hcb]; exact ⟨by omega, by omega⟩) (fun g => by have := (hP.ad hbn).mp g; omega) v82p.1 v82p.2.1 v82p.2.2.1), by omega, by omega⟩⟩
            · have hcb : s (owB s n p).toNat = v25 := by rw [show owB s n p = v18 by omega]; exact v25s
              refine s_aload_n kx_26_135 rfl ?_
              refine s_iconst (v := 5) kx_26_136 (by decide) ?_
              refine r_put (k := 5) (f := 3) kx_26_137 kp_26_20 (tk_5 hT) kf_3_3 rfl (by decide) (by decide) hI19 (ru_5_3 (by omega) (by omega)) (fun M89 hI89 u89 => ?_)
              have hFm89 := hFm19.up u89 rfl
              have tr90 := (u89.2 5 2 (by omega))
              have tr91 := u89.1
              have tr92 := (u89.2 5 5 (by omega))
              have tr93 := (u89.2 5 6 (by omega))
              refine s_aload_n kx_26_140 rfl ?_
              have hf6 : M89 5 6 = 0 := ((((u89.2 5 6 (by omega)).trans ((u19.2 5 6 (by omega)).trans (fr14 5 6 rfl)))).trans h56)
              have hk94 : M89 5 5 = v18 := ((u89.2 5 5 (by omega)).trans u19.1)
              refine s_callV2 (k := 5) (s1 := 1) (s2 := 0) (as := []) (rest := []) kx_26_141 kp_26_55 (Or.inl rfl) rfl (tk_5 hT) ki_21 kcl_21 rfl rfl (by decide) (f_21 (d := d) hT hI89) (kW (fun v95 M96 hI96 fr96 v95p => ?_))
              have hFm96 := hFm89.call fr96 rfl
              have tr97 := (fr96 5 2 rfl)
              have tr98 := (fr96 5 3 rfl)
              have tr99 := (fr96 5 5 rfl)
              have tr100 := rg_5_1 hI96
              refine s_pop kx_26_144 rfl ?_
              refine s_goto (t := 164) kx_26_145 (by decide) ?_
              have hk101 : M96 5 2 = v18 := ((fr96 5 2 rfl).trans ((u89.2 5 2 (by omega)).trans ((u19.2 5 2 (by omega)).trans v18e)))
              have hk102 : M96 5 3 = 5 := ((fr96 5 3 rfl).trans u89.1)
              have hk103 : M96 5 5 = v18 := ((fr96 5 5 rfl).trans ((u89.2 5 5 (by omega)).trans u19.1))
              exact s_vret kx_26_164 kq_26 ⟨_, rfl, rfl, hI96, hFm96, ⟨(LxA.e5 ((funext fun i => ((fr96 2 i rfl).trans ((u89.2 2 i (by omega)).trans ((u19.2 2 i (by omega)).trans (fr14 2 i rfl))))).trans hs) ((((fr96 5 1 rfl).trans ((u89.2 5 1 (by omega)).trans ((u19.2 5 1 (by omega)).trans (fr14 5 1 rfl))))).trans h51) h0 hpn (by omega) hbn (by rw [hcb]; omega) ((hP.ad hbn).mpr ⟨⟨by omega, by omega⟩, by omega⟩) (by omega) (by omega) (by omega)), by omega, by omega⟩⟩
        · replace v65p := v65p.resolve_left (by omega)
          have hcb : s (owB s n p).toNat = v25 := by rw [show owB s n p = v18 by omega]; exact v25s
          refine s_aload_n kx_26_92 rfl ?_
          refine s_iconst (v := 4) kx_26_93 (by decide) ?_
          refine r_put (k := 5) (f := 3) kx_26_94 kp_26_20 (tk_5 hT) kf_3_3 rfl (by decide) (by decide) hI19 (ru_5_3 (by omega) (by omega)) (fun M104 hI104 u104 => ?_)
          have hFm104 := hFm19.up u104 rfl
          have tr105 := (u104.2 5 2 (by omega))
          have tr106 := u104.1
          have tr107 := (u104.2 5 5 (by omega))
          have tr108 := (u104.2 5 6 (by omega))
          refine s_aload_n kx_26_97 rfl ?_
          refine s_aload_n kx_26_98 rfl ?_
          refine r_getR (k := 5) (f := 0) (k2 := 2) kx_26_99 kp_26_7 (tk_5 hT) kf_3_0 (by decide) ((u104.2 5 0 (by omega)).trans ((u19.2 5 0 (by omega)).trans ((fr14 5 0 rfl).trans h50))) ?_
          refine s_aload_n kx_26_102 rfl ?_
          refine r_getK (k := 5) (f := 2) kx_26_103 kp_26_17 (tk_5 hT) kf_3_2 (fun _ => rfl) ((u104.2 5 2 (by omega)).trans ((u19.2 5 2 (by omega)).trans v18e)) ?_
          refine r_aldK (k := 2) kx_26_106 (tk_2 hT) ⟨by omega, by omega⟩ ((u104.2 2 _ (by omega)).trans v25e) ?_
          refine r_put (k := 5) (f := 4) kx_26_107 kp_26_23 (tk_5 hT) kf_3_4 rfl (by decide) (by decide) hI104 ru_5_4 (fun M109 hI109 u109 => ?_)
          have hFm109 := hFm104.up u109 rfl
          have tr110 := (u109.2 5 2 (by omega))
          have tr111 := (u109.2 5 3 (by omega))
          have tr112 := (u109.2 5 5 (by omega))
          have tr113 := (u109.2 5 6 (by omega))
          refine s_aload_n kx_26_110 rfl ?_
          refine s_dup kx_26_111 rfl ?_
          refine r_getK (k := 5) (f := 2) kx_26_112 kp_26_17 (tk_5 hT) kf_3_2 (fun _ => rfl) ((u109.2 5 2 (by omega)).trans ((u104.2 5 2 (by omega)).trans ((u19.2 5 2 (by omega)).trans v18e))) ?_
          refine s_iconst (v := 1) kx_26_115 (by decide) ?_
          refine r_add kx_26_116 ⟨by omega, by omega⟩ ?_
          refine r_put (k := 5) (f := 2) kx_26_117 kp_26_17 (tk_5 hT) kf_3_2 rfl (by decide) (by decide) hI109 (ru_5_2 (by omega) (by omega)) (fun M114 hI114 u114 => ?_)
          have hFm114 := hFm109.up u114 rfl
          have tr115 := u114.1
          have tr116 := (u114.2 5 3 (by omega))
          have tr117 := (u114.2 5 5 (by omega))
          have tr118 := (u114.2 5 6 (by omega))
          refine s_goto (t := 164) kx_26_120 (by decide) ?_
          have hk119 : M114 5 2 = (v18 + 1) := u114.1
          have hk120 : M114 5 3 = 4 := ((u114.2 5 3 (by omega)).trans ((u109.2 5 3 (by omega)).trans u104.1))
          have hk121 : M114 5 5 = v18 := ((u114.2 5 5 (by omega)).trans ((u109.2 5 5 (by omega)).trans ((u104.2 5 5 (by omega)).trans u19.1)))
          exact s_vret kx_26_164 kq_26 ⟨_, rfl, rfl, hI114, hFm114, ⟨(LxA.e4 ((funext fun i => ((u114.2 2 i (by omega)).trans ((u109.2 2 i (by omega)).trans ((u104.2 2 i (by omega)).trans ((u19.2 2 i (by omega)).trans (fr14 2 i rfl)))))).trans hs) ((((u114.2 5 1 (by omega)).trans ((u109.2 5 1 (by omega)).trans ((u104.2 5 1 (by omega)).trans ((u19.2 5 1 (by omega)).trans (fr14 5 1 rfl)))))).trans h51) h0 hpn (by omega) hbn hcb (by omega) (by omega) ((u114.2 5 3 (by omega)).trans ((u109.2 5 3 (by omega)).trans u104.1)) ((u114.2 5 4 (by omega)).trans u109.1) ((((u114.2 5 6 (by omega)).trans ((u109.2 5 6 (by omega)).trans ((u104.2 5 6 (by omega)).trans ((u19.2 5 6 (by omega)).trans (fr14 5 6 rfl)))))).trans h56) (by omega)), by omega, by omega⟩⟩
    · refine s_aload_n kx_26_52 rfl ?_
      refine s_iconst (v := 0) kx_26_53 (by decide) ?_
      refine r_put (k := 5) (f := 3) kx_26_54 kp_26_20 (tk_5 hT) kf_3_3 rfl (by decide) (by decide) hI19 (ru_5_3 (by omega) (by omega)) (fun M122 hI122 u122 => ?_)
      have hFm122 := hFm19.up u122 rfl
      have tr123 := (u122.2 5 2 (by omega))
      have tr124 := u122.1
      have tr125 := (u122.2 5 5 (by omega))
      have tr126 := (u122.2 5 6 (by omega))
      have hk127 : M122 5 2 = v18 := ((u122.2 5 2 (by omega)).trans ((u19.2 5 2 (by omega)).trans v18e))
      have hk128 : M122 5 3 = 0 := u122.1
      have hk129 : M122 5 5 = v18 := ((u122.2 5 5 (by omega)).trans u19.1)
      exact s_vret kx_26_57 kq_26 ⟨_, rfl, rfl, hI122, hFm122, ⟨(LxA.e0 ((funext fun i => ((u122.2 2 i (by omega)).trans ((u19.2 2 i (by omega)).trans (fr14 2 i rfl)))).trans hs) ((((u122.2 5 1 (by omega)).trans ((u19.2 5 1 (by omega)).trans (fr14 5 1 rfl)))).trans h51) h0 hpn (by omega) (by omega) u122.1 ((((u122.2 5 6 (by omega)).trans ((u19.2 5 6 (by omega)).trans (fr14 5 6 rfl)))).trans h56) (by omega)), by omega, by omega⟩⟩
  refine s_icmp_eq (t := 29) kx_26_10 (by decide) (fun hc3 => ?_) (fun hc3 => ?_)
  · have hJ4 : Fr gS_26_j10 M M := Fr.refl
    refine s_iconst (v := 1) kx_26_29 (by decide) ?_
    refine s_goto (t := 34) kx_26_30 (by decide) ?_
    exact cP.wk (lS1 rfl (lS1 rfl lS0)) (jn9 1 (by omega) (by omega) (by omega))
  · have hJ5 : Fr gS_26_j10 M M := Fr.refl
    refine s_aload_n kx_26_13 rfl ?_
    refine r_getK (k := 5) (f := 3) kx_26_14 kp_26_20 (tk_5 hT) kf_3_3 (fun _ => rfl) v2e ?_
    refine s_iconst (v := 2) kx_26_17 (by decide) ?_
    refine s_icmp_eq (t := 29) kx_26_18 (by decide) (fun hc6 => ?_) (fun hc6 => ?_)
    · refine s_iconst (v := 1) kx_26_29 (by decide) ?_
      refine s_goto (t := 34) kx_26_30 (by decide) ?_
      exact cP.wk (lS1 rfl (lS1 rfl lS0)) (jn9 1 (by omega) (by omega) (by omega))
    · refine s_aload_n kx_26_21 rfl ?_
      refine r_getK (k := 5) (f := 3) kx_26_22 kp_26_20 (tk_5 hT) kf_3_3 (fun _ => rfl) v2e ?_
      refine s_iconst (v := 3) kx_26_25 (by decide) ?_
      refine s_icmp_ne (t := 33) kx_26_26 (by decide) (fun hc7 => ?_) (fun hc7 => ?_)
      · refine s_iconst (v := 0) kx_26_33 (by decide) ?_
        exact cP.wk (lS1 rfl (lS1 rfl lS0)) (jn9 0 (by omega) (by omega) (by omega))
      · refine s_iconst (v := 1) kx_26_29 (by decide) ?_
        refine s_goto (t := 34) kx_26_30 (by decide) ?_
        exact cP.wk (lS1 rfl (lS1 rfl lS0)) (jn9 1 (by omega) (by omega) (by omega))
def gS_24_m : List (Nat × Nat) := [(5, 2), (5, 3), (5, 4), (5, 5), (5, 6), (5, 7)]
theorem f_24 {xs : Nat → Int} {Ln d : Nat} {T : List cK} {M : cM} (hT : TT T) (hI : Rng M) (h50 : M 5 0 = ((2 : Nat) : Int)) {c : Int} {s : Nat → Int} {n p : Int} (hL : LxA M s n p) : cC k_P xs Ln (d + 3) 24 [rf 5, (0, c)] (T, M) (qW T M gS_24_m 0 (fun v M1 => (v = 1 ∧ owG s n p c = 1 ∧ LxA M1 s n (owE s n p) ∧ M 5 2 ≤ M1 5 2 ∧ (M1 5 3 = 0 ∨ M1 5 3 = 5 ∨ M 5 2 + 1 ≤ M1 5 2) ∧ p + 1 ≤ owE s n p) ∨ (v = 0 ∧ owG s n p c = 0 ∧ Flt M1 (owU s n p) ∧ M1 5 2 = M 5 2))) := by
  show cP k_P xs Ln (d + 3) 24 0 [(0, rf 5), (1, (0, c))] [] (T, M) _
  have hFm : Fr gS_24_m M M := Fr.refl
  have ⟨hs, h51, h0, hpn, h53, h55, h5f, h5g, h5v⟩ := hL
  have h51r := rg_5_1 hI
  refine s_aload_n kx_24_0 rfl ?_
  refine s_iload_n kx_24_1 rfl ?_
  refine s_callV2 (k := 5) (s1 := 2) (s2 := 0) (as := [(0, c)]) (rest := []) kx_24_2 kp_24_51 (Or.inl rfl) rfl (tk_5 hT) ki_23 kcl_23 rfl rfl (by decide) (f_23 (d := d + 2) (c := c) hT hI hL) (kF (fun v1 v1p => ?_))
  refine s_if_ne (t := 13) kx_24_5 (by decide) (fun hc2 => ?_) (fun hc2 => ?_)
  · replace v1p := v1p.resolve_right (by omega)
    refine s_aload_n kx_24_13 rfl ?_
    refine s_callV2 (k := 5) (s1 := 1) (s2 := 0) (as := []) (rest := []) kx_24_14 kp_24_59 (Or.inl rfl) rfl (tk_5 hT) ki_26 kcl_26 rfl rfl (by decide) (f_26 (d := d) hT hI h50 (LxA.nx hL (by omega) (by omega))) (kV (fun M4 hI4 fr4 v3p => ?_))
    have hFm4 := hFm.call fr4 rfl
    refine s_iconst (v := 1) kx_24_17 (by decide) ?_
    exact s_iret kx_24_18 (Or.inr ⟨kq_24, by omega⟩) ⟨_, _, rfl, rfl, hI4, hFm4, (Or.inl ⟨rfl, by omega, v3p.1, v3p.2.1, v3p.2.2, (owE_gt (s := s) hpn (by omega)).1⟩)⟩
  · replace v1p := v1p.resolve_left (by omega)
    refine s_aload_n kx_24_8 rfl ?_
    refine s_callV2 (k := 5) (s1 := 1) (s2 := 0) (as := []) (rest := []) kx_24_9 kp_24_55 (Or.inl rfl) rfl (tk_5 hT) ki_21 kcl_21 rfl rfl (by decide) (f_21 (d := d + 1) hT hI) (kW (fun v5 M6 hI6 fr6 v5p => ?_))
    have hFm6 := hFm.call fr6 rfl
    have tr7 := (fr6 5 2 rfl)
    have tr8 := (fr6 5 3 rfl)
    exact s_iret kx_24_12 (Or.inr ⟨kq_24, by omega⟩) ⟨_, _, rfl, rfl, hI6, hFm6, (Or.inr ⟨by omega, by omega, LxA.un hL (by omega) v5p.2.2, by omega⟩)⟩
