/-! the bytes that are fed -/
def tbU (x y : Int) : Int := c_bin (fun x y => (x.toUInt32 >>> (y.toUInt32 &&& Int32.toUInt32 31)).toInt32) x y
def tbS (x y : Int) : Int := c_bin (fun x y => x >>> (y &&& 31)) x y
def tbA (x y : Int) : Int := c_bin (· &&& ·) x y
theorem bv_b (x : BitVec 32) (s : Nat) (hs : s ≤ 24) : (x >>> s) &&& 255#32 = (x.sshiftRight s) &&& 255#32 := by
  apply BitVec.eq_of_getLsbD_eq
  intro i hi
  rw [BitVec.getLsbD_and, BitVec.getLsbD_and, BitVec.getLsbD_ushiftRight, BitVec.getLsbD_sshiftRight]
  by_cases h : i < 8
  · rw [if_pos (by omega), decide_eq_false (by omega)]
    rfl
  · have e : ∀ i : Fin 32, 8 ≤ i.val → (255#32).getLsbD i.val = false := by decide
    rw [e ⟨i, hi⟩ (by show 8 ≤ i; omega), Bool.and_false, Bool.and_false]
theorem bv_24 (a : Int32) : ((a.toUInt32 >>> ((Int32.ofInt 24).toUInt32 &&& Int32.toUInt32 31)).toInt32 &&& Int32.ofInt 255) = ((a >>> (Int32.ofInt 24 &&& 31)) &&& Int32.ofInt 255) := Int32.toBitVec_inj.mp (bv_b a.toBitVec 24 (by decide))
theorem bv_16 (a : Int32) : ((a.toUInt32 >>> ((Int32.ofInt 16).toUInt32 &&& Int32.toUInt32 31)).toInt32 &&& Int32.ofInt 255) = ((a >>> (Int32.ofInt 16 &&& 31)) &&& Int32.ofInt 255) := Int32.toBitVec_inj.mp (bv_b a.toBitVec 16 (by decide))
theorem bv_8 (a : Int32) : ((a.toUInt32 >>> ((Int32.ofInt 8).toUInt32 &&& Int32.toUInt32 31)).toInt32 &&& Int32.ofInt 255) = ((a >>> (Int32.ofInt 8 &&& 31)) &&& Int32.ofInt 255) := Int32.toBitVec_inj.mp (bv_b a.toBitVec 8 (by decide))
theorem bv_0 (a : Int32) : ((a.toUInt32 >>> ((Int32.ofInt 0).toUInt32 &&& Int32.toUInt32 31)).toInt32 &&& Int32.ofInt 255) = ((a >>> (Int32.ofInt 0 &&& 31)) &&& Int32.ofInt 255) := Int32.toBitVec_inj.mp (bv_b a.toBitVec 0 (by decide))
theorem tb_eq {x y : Int} (h : y = 24 ∨ y = 16 ∨ y = 8 ∨ y = 0) : tbA (tbU x y) 255 = tbA (tbS x y) 255 := by
  unfold tbA tbU tbS c_bin
  rw [Int32.ofInt_toInt, Int32.ofInt_toInt]
  rcases h with rfl | rfl | rfl | rfl
  · exact congrArg Int32.toInt (bv_24 _)
  · exact congrArg Int32.toInt (bv_16 _)
  · exact congrArg Int32.toInt (bv_8 _)
  · exact congrArg Int32.toInt (bv_0 _)
theorem tbA_r (x : Int) : 0 ≤ tbA x 255 ∧ tbA x 255 ≤ 255 := c_andM (by decide) (by decide)
/-- the tape s from place l up to place e: the bytes of x -/
def tpk (s : Nat → Int) (x l e : Int) : Nat → Int := fun k => if l ≤ (k : Int) ∧ (k : Int) < e then tbA (tbS x (24 - 8 * ((k : Int) - l))) 255 else s k
theorem tpk_0 (s : Nat → Int) (x l : Int) : ∀ k, s k = tpk s x l l k := fun k => (if_neg (by omega)).symm
theorem tpk_S {s N N1 : Nat → Int} {x l e y : Int} (h : ∀ k, N k = tpk s x l e k) (hl : l ≤ e) (h0 : 0 ≤ e) (hy : y = 24 - 8 * (e - l)) (hv : N1 e.toNat = tbA (tbS x y) 255) (ho : ∀ k, k ≠ e.toNat → N1 k = N k) : ∀ k, N1 k = tpk s x l (e + 1) k := by
  intro k
  by_cases hk : k = e.toNat
  · rw [hk, hv]
    unfold tpk
    rw [if_pos (by omega), hy, Int.toNat_of_nonneg h0]
  · rw [ho k hk, h k]
    unfold tpk
    by_cases hq : l ≤ (k : Int) ∧ (k : Int) < e
    · rw [if_pos hq, if_pos (by omega)]
    · rw [if_neg hq, if_neg (by omega)]
def tp5 (s : Nat → Int) (l a b c e f : Int) : Nat → Int := tpk (tpk (tpk (tpk (tpk s a l (l + 4)) b (l + 4) (l + 8)) c (l + 8) (l + 12)) e (l + 12) (l + 16)) f (l + 16) (l + 20)
def gS_103_l3 : List (Nat × Nat) := [(1, 1), (2, 99999)]
def gS_103_m : List (Nat × Nat) := [(1, 1), (2, 99999)]
theorem f_103 {xs : Nat → Int} {Ln d : Nat} {T : List cK} {M : cM} (hT : TT T) (hI : Rng M) {x : Int} (p0 : M 1 1 + 4 ≤ 1600) : cC k_P xs Ln (d + 0) 103 [rf 1, (0, x)] (T, M) (qV T M gS_103_m (fun M1 => M1 1 1 = M 1 1 + 4 ∧ M1 2 = tpk (M 2) x (M 1 1) (M 1 1 + 4))) := by
  show cP k_P xs Ln (d + 0) 103 0 [(0, rf 1), (1, (0, x))] [] (T, M) _
  have hFm : Fr gS_103_m M M := Fr.refl
  have hl9 := rg_1_1 hI
  refine s_bipush (v := 24) kx_103_0 (by decide) ?_
  refine s_istore_n kx_103_2 km_103_2 rfl ?_
  have key3 : ∀ n4 : Nat, ∀ (x2_1 : Int), ∀ M2 : cM, Rng M2 → Fr gS_103_m M M2 → Fr gS_103_l3 M M2 → ((-8) ≤ x2_1) → (x2_1 ≤ 24) → (8 * (M2 1 1 - M 1 1) = 24 - x2_1) → (∀ k, M2 2 k = tpk (M 2) x (M 1 1) (M2 1 1) k) → (x2_1 + 2147483648).toNat < n4 → cP k_P xs Ln (d + 0) 103 3 [(0, rf 1), (1, (0, x)), (2, (0, x2_1))] [] (T, M2) (qV T M gS_103_m (fun M1 => M1 1 1 = M 1 1 + 4 ∧ M1 2 = tpk (M 2) x (M 1 1) (M 1 1 + 4))) := by
    intro n4
    induction n4 with
    | zero => intro x2_1 M2 hI2 hFm2 fl2 i5 i6 i7 i8 hm9; exact absurd hm9 (Nat.not_lt_zero _)
    | succ n4 ih10 =>
      intro x2_1 M2 hI2 hFm2 fl2 i5 i6 i7 i8 hm9
      have hll := rg_1_1 hI2
      refine s_iload_n kx_103_3 rfl ?_
      refine s_if_lt (t := 51) kx_103_4 (by decide) (fun hc11 => ?_) (fun hc11 => ?_)
      · exact s_vret kx_103_51 kq_103 ⟨_, rfl, rfl, hI2, hFm2, ⟨by omega, (show M2 1 1 = M 1 1 + 4 by omega) ▸ (funext i8)⟩⟩
      · refine s_aload_n kx_103_7 rfl ?_
        refine r_getI (k := 1) (f := 1) kx_103_8 kp_103_15 (tk_1 hT) kf_8_1 (fun _ => rfl) (rg_1_1 hI2) (fun v12 v12e v12a v12b => ?_)
        refine s_aload_n kx_103_11 rfl ?_
        refine r_getR (k := 1) (f := 0) (k2 := 2) kx_103_12 kp_103_9 (tk_1 hT) kf_8_0 (by decide) (rq_1_0 hI2) ?_
        refine r_alen (k := 2) kx_103_15 (tk_2 hT) ⟨by decide, by decide⟩ ?_
        refine s_icmp_ge (t := 51) kx_103_16 (by decide) (fun hc13 => ?_) (fun hc13 => ?_)
        · have hk14 : M2 1 1 = v12 := v12e
          exact s_vret kx_103_51 kq_103 ⟨_, rfl, rfl, hI2, hFm2, ⟨by omega, (show M2 1 1 = M 1 1 + 4 by omega) ▸ (funext i8)⟩⟩
        · refine s_aload_n kx_103_19 rfl ?_
          refine r_getR (k := 1) (f := 0) (k2 := 2) kx_103_20 kp_103_9 (tk_1 hT) kf_8_0 (by decide) (rq_1_0 hI2) ?_
          refine s_aload_n kx_103_23 rfl ?_
          refine r_getK (k := 1) (f := 1) kx_103_24 kp_103_15 (tk_1 hT) kf_8_1 (fun _ => rfl) v12e ?_
          refine s_iload_n kx_103_27 rfl ?_
          refine s_iload_n kx_103_28 rfl ?_
          refine s_iushr (z := (tbU x x2_1)) kx_103_29 rfl ?_
          refine s_sipush (v := 255) kx_103_30 (by decide) ?_
          refine s_iand (z := (tbA (tbU x x2_1) 255)) kx_103_33 rfl ?_
          have htb := tbA_r ((tbU x x2_1))
          refine r_ast (k := 2) kx_103_34 (tk_2 hT) ⟨by omega, by omega⟩ hI2 (ru_2 (by omega) (by omega)) (fun M17 hI17 u17 => ?_)
          have hFm17 := hFm2.up u17 rfl
          have hFl317 := fl2.up u17 rfl
          refine s_aload_n kx_103_35 rfl ?_
          refine s_dup kx_103_36 rfl ?_
          refine r_getK (k := 1) (f := 1) kx_103_37 kp_103_15 (tk_1 hT) kf_8_1 (fun _ => rfl) ((u17.2 1 1 (by omega)).trans v12e) ?_
          refine s_iconst (v := 1) kx_103_40 (by decide) ?_
          refine r_add kx_103_41 ⟨by omega, by omega⟩ ?_
          refine r_put (k := 1) (f := 1) kx_103_42 kp_103_15 (tk_1 hT) kf_8_1 rfl (by decide) (by decide) hI17 (ru_1_1 (by omega) (by omega)) (fun M18 hI18 u18 => ?_)
          have hFm18 := hFm17.up u18 rfl
          have hFl318 := hFl317.up u18 rfl
          refine r_iinc kx_103_45 rfl km_103_2 (by decide) ⟨by omega, by omega⟩ rfl ?_
          refine s_goto (t := 3) kx_103_48 (by decide) ?_
          have hk19 : M18 1 1 = (v12 + 1) := u18.1
          have hl0 : M2 1 1 = v12 := v12e; have hq0 := i8
          exact cP.wk (lS1 rfl (lS1 rfl (lS1 rfl lS0))) (ih10 (x2_1 + (-8)) M18 hI18 hFm18 hFl318 (by omega) (by omega) (by omega) (by rw [u18.1]; rw [hl0] at hq0; exact tpk_S (y := x2_1) hq0 (by omega) (by omega) (by omega) ((u18.2 2 _ (by omega)).trans (u17.1.trans (tb_eq (by omega)))) (fun k hk => (u18.2 2 k (by omega)).trans (u17.2 2 k (by omega)))) (by omega))
  exact cP.wk (lS1 rfl (lS1 rfl (lS1 rfl lS0))) (key3 _ 24 M hI hFm Fr.refl (by omega) (by omega) (by omega) (tpk_0 _ _ _) (Nat.lt_succ_self _))
def gS_136_m : List (Nat × Nat) := [(1, 1), (2, 99999), (61, 99999)]
theorem f_136 {xs : Nat → Int} {Ln d : Nat} {T : List cK} {M : cM} (hT : TT T) (hI : Rng M) {a b c e f : Int} : cC k_P xs Ln (d + 1) 136 [rf 0, (0, a), (0, b), (0, c), (0, e), (0, f)] (T, M) (qW T M gS_136_m 0 (fun v M1 => (1600 < M 1 1 + 20 ∧ v = -1 ∧ M1 1 1 = M 1 1 ∧ M1 2 = M 2) ∨ (M 1 1 + 20 ≤ 1600 ∧ v = M 1 1 + 20 ∧ M1 1 1 = v ∧ M1 2 = tp5 (M 2) (M 1 1) a b c e f))) := by
  show cP k_P xs Ln (d + 1) 136 0 [(0, rf 0), (1, (0, a)), (2, (0, b)), (3, (0, c)), (4, (0, e)), (5, (0, f))] [] (T, M) _
  have hFm : Fr gS_136_m M M := Fr.refl
  refine s_aload_n kx_136_0 rfl ?_
  refine r_getR (k := 0) (f := 0) (k2 := 1) kx_136_1 kp_136_10 (tk_0 hT) kf_11_0 (by decide) (rq_0_0 hI) ?_
  refine r_getI (k := 1) (f := 1) kx_136_4 kp_136_78 (tk_1 hT) kf_8_1 (fun _ => rfl) (rg_1_1 hI) (fun v1 v1e v1a v1b => ?_)
  refine s_bipush (v := 20) kx_136_7 (by decide) ?_
  refine r_add kx_136_9 ⟨by omega, by omega⟩ ?_
  refine s_sipush (v := 1600) kx_136_10 (by decide) ?_
  refine s_icmp_le (t := 22) kx_136_13 (by decide) (fun hc2 => ?_) (fun hc2 => ?_)
  · refine s_aload_n kx_136_22 rfl ?_
    refine r_getR (k := 0) (f := 0) (k2 := 1) kx_136_23 kp_136_10 (tk_0 hT) kf_11_0 (by decide) (rq_0_0 hI) ?_
    refine s_iload_n kx_136_26 rfl ?_
    refine s_callV2 (k := 1) (s1 := 2) (s2 := 0) (as := [(0, a)]) (rest := []) kx_136_27 kp_136_85 (Or.inl rfl) rfl (tk_1 hT) ki_103 kcl_103 rfl rfl (by decide) (f_103 (d := d) (x := a) hT hI (by omega)) (kV (fun M4 hI4 fr4 v3p => ?_))
    have hFm4 := hFm.call fr4 rfl
    have ht0 := v3p.2
    have hn0 := v3p.1
    refine s_aload_n kx_136_30 rfl ?_
    refine r_getR (k := 0) (f := 0) (k2 := 1) kx_136_31 kp_136_10 (tk_0 hT) kf_11_0 (by decide) (rq_0_0 hI4) ?_
    refine s_iload_n kx_136_34 rfl ?_
    refine s_callV2 (k := 1) (s1 := 2) (s2 := 0) (as := [(0, b)]) (rest := []) kx_136_35 kp_136_85 (Or.inl rfl) rfl (tk_1 hT) ki_103 kcl_103 rfl rfl (by decide) (f_103 (d := d) (x := b) hT hI4 (by omega)) (kV (fun M6 hI6 fr6 v5p => ?_))
    have hFm6 := hFm4.call fr6 rfl
    have ht1 := v5p.2
    have hn1 := v5p.1
    refine s_aload_n kx_136_38 rfl ?_
    refine r_getR (k := 0) (f := 0) (k2 := 1) kx_136_39 kp_136_10 (tk_0 hT) kf_11_0 (by decide) (rq_0_0 hI6) ?_
    refine s_iload_n kx_136_42 rfl ?_
    refine s_callV2 (k := 1) (s1 := 2) (s2 := 0) (as := [(0, c)]) (rest := []) kx_136_43 kp_136_85 (Or.inl rfl) rfl (tk_1 hT) ki_103 kcl_103 rfl rfl (by decide) (f_103 (d := d) (x := c) hT hI6 (by omega)) (kV (fun M8 hI8 fr8 v7p => ?_))
    have hFm8 := hFm6.call fr8 rfl
    have ht2 := v7p.2
    have hn2 := v7p.1
    refine s_aload_n kx_136_46 rfl ?_
    refine r_getR (k := 0) (f := 0) (k2 := 1) kx_136_47 kp_136_10 (tk_0 hT) kf_11_0 (by decide) (rq_0_0 hI8) ?_
    refine s_iload kx_136_50 rfl ?_
    refine s_callV2 (k := 1) (s1 := 2) (s2 := 0) (as := [(0, e)]) (rest := []) kx_136_52 kp_136_85 (Or.inl rfl) rfl (tk_1 hT) ki_103 kcl_103 rfl rfl (by decide) (f_103 (d := d) (x := e) hT hI8 (by omega)) (kV (fun M10 hI10 fr10 v9p => ?_))
    have hFm10 := hFm8.call fr10 rfl
    have ht3 := v9p.2
    have hn3 := v9p.1
    refine s_aload_n kx_136_55 rfl ?_
    refine r_getR (k := 0) (f := 0) (k2 := 1) kx_136_56 kp_136_10 (tk_0 hT) kf_11_0 (by decide) (rq_0_0 hI10) ?_
    refine s_iload kx_136_59 rfl ?_
    refine s_callV2 (k := 1) (s1 := 2) (s2 := 0) (as := [(0, f)]) (rest := []) kx_136_61 kp_136_85 (Or.inl rfl) rfl (tk_1 hT) ki_103 kcl_103 rfl rfl (by decide) (f_103 (d := d) (x := f) hT hI10 (by omega)) (kV (fun M12 hI12 fr12 v11p => ?_))
    have hFm12 := hFm10.call fr12 rfl
    have ht4 := v11p.2
    have hn4 := v11p.1
    refine s_aload_n kx_136_64 rfl ?_
    refine r_getR (k := 0) (f := 0) (k2 := 1) kx_136_65 kp_136_10 (tk_0 hT) kf_11_0 (by decide) (rq_0_0 hI12) ?_
    refine r_getI (k := 1) (f := 1) kx_136_68 kp_136_78 (tk_1 hT) kf_8_1 (fun _ => rfl) (rg_1_1 hI12) (fun v13 v13e v13a v13b => ?_)
    have hk14 : M12 1 1 = v13 := v13e
    exact s_iret kx_136_71 (Or.inl kq_136) ⟨_, _, rfl, rfl, hI12, hFm12, (Or.inr ⟨by omega, by omega, by omega, by rw [ht4, ht3, ht2, ht1, ht0, hn3, hn2, hn1, hn0]; unfold tp5; simp only [Int.add_assoc]; rfl⟩)⟩
  · refine s_aload_n kx_136_16 rfl ?_
    refine s_iconst (v := 0) kx_136_17 (by decide) ?_
    refine s_callV2 (k := 0) (s1 := 2) (s2 := 0) (as := [(0, 0)]) (rest := []) kx_136_18 kp_136_81 (Or.inl rfl) rfl (tk_0 hT) ki_165 kcl_165 rfl rfl (by decide) (m_165 (d := d) (kind := 0) hT hI) (kW (fun v15 M16 hI16 fr16 v15p => ?_))
    have hFm16 := hFm.call fr16 rfl
    have hk17 : M16 1 1 = v1 := ((fr16 1 1 rfl).trans v1e)
    exact s_iret kx_136_21 (Or.inl kq_136) ⟨_, _, rfl, rfl, hI16, hFm16, (Or.inl ⟨by omega, by omega, by omega, funext fun i => fr16 2 i rfl⟩)⟩
def gS_173_l3 : List (Nat × Nat) := [(63, 1), (64, 99999)]
def gS_173_m : List (Nat × Nat) := [(63, 1), (64, 99999)]
theorem f_173 {xs : Nat → Int} {Ln d : Nat} {T : List cK} {M : cM} (hT : TT T) (hI : Rng M) {x : Int} (p0 : M 63 1 + 4 ≤ 1600) : cC k_P xs Ln (d + 0) 173 [rf 63, (0, x)] (T, M) (qV T M gS_173_m (fun M1 => M1 63 1 = M 63 1 + 4 ∧ M1 64 = tpk (M 64) x (M 63 1) (M 63 1 + 4))) := by
  show cP k_P xs Ln (d + 0) 173 0 [(0, rf 63), (1, (0, x))] [] (T, M) _
  have hFm : Fr gS_173_m M M := Fr.refl
  have hl9 := rg_63_1 hI
  refine s_bipush (v := 24) kx_173_0 (by decide) ?_
  refine s_istore_n kx_173_2 km_173_2 rfl ?_
  have key3 : ∀ n4 : Nat, ∀ (x2_1 : Int), ∀ M2 : cM, Rng M2 → Fr gS_173_m M M2 → Fr gS_173_l3 M M2 → ((-8) ≤ x2_1) → (x2_1 ≤ 24) → (8 * (M2 63 1 - M 63 1) = 24 - x2_1) → (∀ k, M2 64 k = tpk (M 64) x (M 63 1) (M2 63 1) k) → (x2_1 + 2147483648).toNat < n4 → cP k_P xs Ln (d + 0) 173 3 [(0, rf 63), (1, (0, x)), (2, (0, x2_1))] [] (T, M2) (qV T M gS_173_m (fun M1 => M1 63 1 = M 63 1 + 4 ∧ M1 64 = tpk (M 64) x (M 63 1) (M 63 1 + 4))) := by
    intro n4
    induction n4 with
    | zero => intro x2_1 M2 hI2 hFm2 fl2 i5 i6 i7 i8 hm9; exact absurd hm9 (Nat.not_lt_zero _)
    | succ n4 ih10 =>
      intro x2_1 M2 hI2 hFm2 fl2 i5 i6 i7 i8 hm9
      have hll := rg_63_1 hI2
      refine s_iload_n kx_173_3 rfl ?_
      refine s_if_lt (t := 39) kx_173_4 (by decide) (fun hc11 => ?_) (fun hc11 => ?_)
      · exact s_vret kx_173_39 kq_173 ⟨_, rfl, rfl, hI2, hFm2, ⟨by omega, (show M2 63 1 = M 63 1 + 4 by omega) ▸ (funext i8)⟩⟩
      · refine s_aload_n kx_173_7 rfl ?_
        refine r_getR (k := 63) (f := 0) (k2 := 64) kx_173_8 kp_173_7 (tk_63 hT) kf_12_0 (by decide) (rq_63_0 hI2) ?_
        refine s_aload_n kx_173_11 rfl ?_
        refine r_getI (k := 63) (f := 1) kx_173_12 kp_173_13 (tk_63 hT) kf_12_1 (fun _ => rfl) (rg_63_1 hI2) (fun v12 v12e v12a v12b => ?_)
        refine s_iload_n kx_173_15 rfl ?_
        refine s_iload_n kx_173_16 rfl ?_
        refine s_ishr (z := (tbS x x2_1)) kx_173_17 rfl ?_
        refine s_sipush (v := 255) kx_173_18 (by decide) ?_
        refine s_iand (z := (tbA (tbS x x2_1) 255)) kx_173_21 rfl ?_
        have htb := tbA_r ((tbS x x2_1))
        refine r_ast (k := 64) kx_173_22 (tk_64 hT) ⟨by omega, by omega⟩ hI2 (ru_64 (by omega) (by omega)) (fun M15 hI15 u15 => ?_)
        have hFm15 := hFm2.up u15 rfl
        have hFl315 := fl2.up u15 rfl
        refine s_aload_n kx_173_23 rfl ?_
        refine s_dup kx_173_24 rfl ?_
        refine r_getK (k := 63) (f := 1) kx_173_25 kp_173_13 (tk_63 hT) kf_12_1 (fun _ => rfl) ((u15.2 63 1 (by omega)).trans v12e) ?_
        refine s_iconst (v := 1) kx_173_28 (by decide) ?_
        refine r_add kx_173_29 ⟨by omega, by omega⟩ ?_
        refine r_put (k := 63) (f := 1) kx_173_30 kp_173_13 (tk_63 hT) kf_12_1 rfl (by decide) (by decide) hI15 (ru_63_1 (by omega) (by omega)) (fun M16 hI16 u16 => ?_)
        have hFm16 := hFm15.up u16 rfl
        have hFl316 := hFl315.up u16 rfl
        refine r_iinc kx_173_33 rfl km_173_2 (by decide) ⟨by omega, by omega⟩ rfl ?_
        refine s_goto (t := 3) kx_173_36 (by decide) ?_
        have hk17 : M16 63 1 = (v12 + 1) := u16.1
        have hl0 : M2 63 1 = v12 := v12e; have hq0 := i8
        exact cP.wk (lS1 rfl (lS1 rfl (lS1 rfl lS0))) (ih10 (x2_1 + (-8)) M16 hI16 hFm16 hFl316 (by omega) (by omega) (by omega) (by rw [u16.1]; rw [hl0] at hq0; exact tpk_S (y := x2_1) hq0 (by omega) (by omega) (by omega) ((u16.2 64 _ (by omega)).trans u15.1) (fun k hk => (u16.2 64 k (by omega)).trans (u15.2 64 k (by omega)))) (by omega))
  exact cP.wk (lS1 rfl (lS1 rfl (lS1 rfl lS0))) (key3 _ 24 M hI hFm Fr.refl (by omega) (by omega) (by omega) (tpk_0 _ _ _) (Nat.lt_succ_self _))
def gS_174_m : List (Nat × Nat) := [(63, 1), (64, 99999), (91, 99999)]
theorem f_174 {xs : Nat → Int} {Ln d : Nat} {T : List cK} {M : cM} (hT : TT T) (hI : Rng M) {a b c e f : Int} : cC k_P xs Ln (d + 1) 174 [rf 63, (0, a), (0, b), (0, c), (0, e), (0, f)] (T, M) (qW T M gS_174_m 0 (fun v M1 => (1600 < M 63 1 + 20 ∧ v = -1 ∧ M1 63 1 = M 63 1 ∧ M1 64 = M 64) ∨ (M 63 1 + 20 ≤ 1600 ∧ v = M 63 1 + 20 ∧ M1 63 1 = v ∧ M1 64 = tp5 (M 64) (M 63 1) a b c e f))) := by
  show cP k_P xs Ln (d + 1) 174 0 [(0, rf 63), (1, (0, a)), (2, (0, b)), (3, (0, c)), (4, (0, e)), (5, (0, f))] [] (T, M) _
  have hFm : Fr gS_174_m M M := Fr.refl
  refine s_aload_n kx_174_0 rfl ?_
  refine r_getI (k := 63) (f := 1) kx_174_1 kp_174_13 (tk_63 hT) kf_12_1 (fun _ => rfl) (rg_63_1 hI) (fun v1 v1e v1a v1b => ?_)
  refine s_bipush (v := 20) kx_174_4 (by decide) ?_
  refine r_add kx_174_6 ⟨by omega, by omega⟩ ?_
  refine s_sipush (v := 1600) kx_174_7 (by decide) ?_
  refine s_icmp_le (t := 19) kx_174_10 (by decide) (fun hc2 => ?_) (fun hc2 => ?_)
  · refine s_aload_n kx_174_19 rfl ?_
    refine s_iload_n kx_174_20 rfl ?_
    refine s_callV2 (k := 63) (s1 := 2) (s2 := 0) (as := [(0, a)]) (rest := []) kx_174_21 kp_174_259 (Or.inl rfl) rfl (tk_63 hT) ki_173 kcl_173 rfl rfl (by decide) (f_173 (d := d) (x := a) hT hI (by omega)) (kV (fun M4 hI4 fr4 v3p => ?_))
    have hFm4 := hFm.call fr4 rfl
    have ht0 := v3p.2
    have hn0 := v3p.1
    refine s_aload_n kx_174_24 rfl ?_
    refine s_iload_n kx_174_25 rfl ?_
    refine s_callV2 (k := 63) (s1 := 2) (s2 := 0) (as := [(0, b)]) (rest := []) kx_174_26 kp_174_259 (Or.inl rfl) rfl (tk_63 hT) ki_173 kcl_173 rfl rfl (by decide) (f_173 (d := d) (x := b) hT hI4 (by omega)) (kV (fun M6 hI6 fr6 v5p => ?_))
    have hFm6 := hFm4.call fr6 rfl
    have ht1 := v5p.2
    have hn1 := v5p.1
    refine s_aload_n kx_174_29 rfl ?_
    refine s_iload_n kx_174_30 rfl ?_
    refine s_callV2 (k := 63) (s1 := 2) (s2 := 0) (as := [(0, c)]) (rest := []) kx_174_31 kp_174_259 (Or.inl rfl) rfl (tk_63 hT) ki_173 kcl_173 rfl rfl (by decide) (f_173 (d := d) (x := c) hT hI6 (by omega)) (kV (fun M8 hI8 fr8 v7p => ?_))
    have hFm8 := hFm6.call fr8 rfl
    have ht2 := v7p.2
    have hn2 := v7p.1
    refine s_aload_n kx_174_34 rfl ?_
    refine s_iload kx_174_35 rfl ?_
    refine s_callV2 (k := 63) (s1 := 2) (s2 := 0) (as := [(0, e)]) (rest := []) kx_174_37 kp_174_259 (Or.inl rfl) rfl (tk_63 hT) ki_173 kcl_173 rfl rfl (by decide) (f_173 (d := d) (x := e) hT hI8 (by omega)) (kV (fun M10 hI10 fr10 v9p => ?_))
    have hFm10 := hFm8.call fr10 rfl
    have ht3 := v9p.2
    have hn3 := v9p.1
    refine s_aload_n kx_174_40 rfl ?_
    refine s_iload kx_174_41 rfl ?_
    refine s_callV2 (k := 63) (s1 := 2) (s2 := 0) (as := [(0, f)]) (rest := []) kx_174_43 kp_174_259 (Or.inl rfl) rfl (tk_63 hT) ki_173 kcl_173 rfl rfl (by decide) (f_173 (d := d) (x := f) hT hI10 (by omega)) (kV (fun M12 hI12 fr12 v11p => ?_))
    have hFm12 := hFm10.call fr12 rfl
    have ht4 := v11p.2
    have hn4 := v11p.1
    refine s_aload_n kx_174_46 rfl ?_
    refine r_getI (k := 63) (f := 1) kx_174_47 kp_174_13 (tk_63 hT) kf_12_1 (fun _ => rfl) (rg_63_1 hI12) (fun v13 v13e v13a v13b => ?_)
    have hk14 : M12 63 1 = v13 := v13e
    exact s_iret kx_174_50 (Or.inl kq_174) ⟨_, _, rfl, rfl, hI12, hFm12, (Or.inr ⟨by omega, by omega, by omega, by rw [ht4, ht3, ht2, ht1, ht0, hn3, hn2, hn1, hn0]; unfold tp5; simp only [Int.add_assoc]; rfl⟩)⟩
  · refine s_aload_n kx_174_13 rfl ?_
    refine s_iconst (v := 0) kx_174_14 (by decide) ?_
    refine s_callV2 (k := 63) (s1 := 2) (s2 := 0) (as := [(0, 0)]) (rest := []) kx_174_15 kp_174_255 (Or.inl rfl) rfl (tk_63 hT) ki_218 kcl_218 rfl rfl (by decide) (m_218 (d := d) (kind := 0) hT hI (by omega)) (kW (fun v15 M16 hI16 fr16 v15p => ?_))
    have hFm16 := hFm.call fr16 rfl
    have hk17 : M16 63 1 = v1 := ((fr16 63 1 rfl).trans v1e)
    exact s_iret kx_174_18 (Or.inl kq_174) ⟨_, _, rfl, rfl, hI16, hFm16, (Or.inl ⟨by omega, by omega, by omega, funext fun i => fr16 64 i rfl⟩)⟩
