/-! what was carried: what both sides answer -/
def tkA (x y : Int) : Int := c_bin (· &&& ·) x y
def tkR (x y : Int) : Int := c_bin (fun x y => x >>> (y &&& 31)) x y
theorem tk_nat {x : Int} (h : 0 ≤ x ∧ x < 2147483648) : (Int32.ofInt x).toBitVec.toNat = x.toNat := by
  have h1 : (Int32.ofInt x).toBitVec.toInt = x := by
    rw [Int32.toInt_toBitVec]
    exact bmod32 (by omega) (by omega)
  have h2 := (Int32.ofInt x).toBitVec.isLt
  rw [BitVec.toInt_eq_toNat_cond] at h1
  split at h1 <;> omega
theorem tkA_7 {x : Int} (h : 0 ≤ x ∧ x < 2147483648) : tkA x 7 = x % 8 := by
  unfold tkA c_bin
  rw [← Int32.toInt_toBitVec, Int32.toBitVec_and]
  have e2 : (Int32.ofInt 7).toBitVec.toNat = 2 ^ 3 - 1 := by decide
  have e3 : ((Int32.ofInt x).toBitVec &&& (Int32.ofInt 7).toBitVec).toNat = x.toNat % 8 := by
    rw [BitVec.toNat_and, tk_nat h, e2, Nat.and_two_pow_sub_one_eq_mod]
  rw [BitVec.toInt_eq_toNat_cond, e3, if_pos (by omega)]
  omega
theorem tkR_s {x : Int} (h : 0 ≤ x ∧ x < 2147483648) {k : Nat} {y : Int} (hk : (Int32.ofInt y &&& 31).toBitVec.smod 32 = BitVec.ofNat 32 k) (hk2 : k < 32) : tkR x y = ((x.toNat / 2 ^ k : Nat) : Int) := by
  unfold tkR c_bin
  rw [← Int32.toInt_toBitVec, Int32.toBitVec_shiftRight, hk]
  have hn := tk_nat h
  have hm : (Int32.ofInt x).toBitVec.msb = false := by
    rw [BitVec.msb_eq_decide]
    simp
    omega
  have e3 : ((Int32.ofInt x).toBitVec.sshiftRight' (BitVec.ofNat 32 k)).toNat = x.toNat / 2 ^ k := by
    rw [BitVec.sshiftRight', BitVec.sshiftRight_eq_of_msb_false hm, BitVec.toNat_ushiftRight, hn, Nat.shiftRight_eq_div_pow]
    congr 2
    simp
    omega
  have h9 : x.toNat / 2 ^ k ≤ x.toNat := Nat.div_le_self _ _
  rw [BitVec.toInt_eq_toNat_cond, e3, if_pos (by omega)]
theorem tkR_k {x : Int} (h : 0 ≤ x ∧ x < 2147483648) : tkR x 3 = x / 8 ∧ tkR x 6 = x / 64 ∧ tkR x 9 = x / 512 := by
  refine ⟨?_, ?_, ?_⟩
  · rw [tkR_s (k := 3) h (by decide) (by decide)]
    omega
  · rw [tkR_s (k := 6) h (by decide) (by decide)]
    omega
  · rw [tkR_s (k := 9) h (by decide) (by decide)]
    omega
def pKq (S : cM) (k w : Int) : Int := if (0 ≤ k ∧ k < S 5 0) ∧ 0 ≤ w ∧ w ≤ 3 then (if w = 0 then S 6 k.toNat % 8 else if w = 1 then S 6 k.toNat / 8 % 8 else if w = 2 then S 6 k.toNat / 64 % 8 else S 6 k.toNat / 512) else -1
theorem pKq_no {S : cM} {k w : Int} (h : ¬ ((0 ≤ k ∧ k < S 5 0) ∧ 0 ≤ w ∧ w ≤ 3)) : -1 = pKq S k w := (if_neg h).symm
theorem pKq_yes {S : cM} {k w v : Int} (h : (0 ≤ k ∧ k < S 5 0) ∧ 0 ≤ w ∧ w ≤ 3) (hv : (w = 0 ∧ v = S 6 k.toNat % 8) ∨ (w = 1 ∧ v = S 6 k.toNat / 8 % 8) ∨ (w = 2 ∧ v = S 6 k.toNat / 64 % 8) ∨ (w = 3 ∧ v = S 6 k.toNat / 512)) : v = pKq S k w := by
  unfold pKq
  rw [if_pos h]
  rcases hv with ⟨a, b⟩ | ⟨a, b⟩ | ⟨a, b⟩ | ⟨a, b⟩ <;> subst a <;> subst b
  · rw [if_pos rfl]
  · rw [if_neg (by decide), if_pos rfl]
  · rw [if_neg (by decide), if_neg (by decide), if_pos rfl]
  · rw [if_neg (by decide), if_neg (by decide), if_neg (by decide)]
theorem KC.at {g : Nat → Int} {S : cM} {k : Int} (h : KC g S) (hk : 0 ≤ k ∧ k < S 5 0) {f : Nat} (hf : f = (41 + k).toNat) : g f = S 6 k.toNat ∧ 0 ≤ S 6 k.toNat ∧ S 6 k.toNat < 542720 := by
  have := h.2.2 k.toNat (by omega)
  rw [hf, show (41 + k).toNat = 41 + k.toNat by omega]
  exact this
theorem KX.at {M S : cM} {k : Int} (h : KX M 0 S) (hk : 0 ≤ k ∧ k < S 5 0) {f : Nat} (hf : f = k.toNat) : M 98 f = S 6 k.toNat % 8 ∧ M 99 f = S 6 k.toNat / 8 % 8 ∧ M 100 f = S 6 k.toNat / 64 % 8 ∧ M 101 f = S 6 k.toNat / 512 := by
  have := h.2.2 k.toNat (by omega)
  rw [show (40 * (0 : Int) + ((k.toNat : Nat) : Int)).toNat = k.toNat by omega] at this
  rw [hf]
  exact this
theorem g_67 {xs : Nat → Int} {Ln d : Nat} {T : List cK} {M : cM} (hT : TT T) (hI : Rng M) {t : Nat} (ht : t = 8 ∨ t = 25) (h70 : M 7 0 = ((t : Nat) : Int)) {k what : Int} {D S : cM} (hC : CR D S t M) : cC k_P xs Ln (d + 1) 67 [rf 7, (0, k), (0, what)] (T, M) (qF T M 0 (fun v => v = pKq S k what)) := by
  show cP k_P xs Ln (d + 1) 67 0 [(0, rf 7), (1, (0, k)), (2, (0, what))] [] (T, M) _
  have hD := hC.2.1
  have hDr := hD.rg
  have hSW := hC.2.2.2.2.1
  refine s_iload_n kx_67_0 rfl ?_
  refine s_if_lt (t := 12) kx_67_1 (by decide) (fun hc1 => ?_) (fun hc1 => ?_)
  · refine s_iconst (v := (-1)) kx_67_12 (by decide) ?_
    exact s_iret kx_67_13 (Or.inl kq_67) ⟨_, rfl, rfl, (pKq_no (by omega))⟩
  · refine s_iload_n kx_67_4 rfl ?_
    refine s_aload_n kx_67_5 rfl ?_
    refine s_callV2 (k := 7) (s1 := 1) (s2 := 1) (as := []) (rest := [(0, k)]) kx_67_6 kp_67_140 (Or.inl rfl) rfl (tk_7 hT) ki_48 kcl_48 rfl rfl (by decide) (g_48 (d := d) hT hI ht h70 hC) (kF (fun v2 v2p => ?_))
    have v2k : v2 = S 5 0 := v2p.2.2
    refine s_icmp_lt (t := 14) kx_67_9 (by decide) (fun hc3 => ?_) (fun hc3 => ?_)
    · refine s_aload_n kx_67_14 rfl ?_
      refine r_getR (k := 7) (f := 2) (k2 := 42) kx_67_15 kp_67_21 (tk_7 hT) kf_5_2 (by decide) (rq_7_2 hI) ?_
      refine s_bipush (v := 41) kx_67_18 (by decide) ?_
      refine s_iload_n kx_67_20 rfl ?_
      refine r_add kx_67_21 ⟨by omega, by omega⟩ ?_
      refine r_aldU (k := 42) kx_67_22 (tk_42 hT) ⟨by omega, by omega⟩ (fun v4 v4e => ?_)
      have hkx := KC.at hC.k (k := k) ⟨by omega, by omega⟩ (f := ((41 + k)).toNat) (by omega)
      rw [v4e] at hkx
      have hk7 := tkA_7 (x := v4) (by omega)
      obtain ⟨hk3, hk6, hk9⟩ := tkR_k (x := v4) (by omega)
      have hk37 := tkA_7 (x := tkR v4 3) (by omega)
      have hk67 := tkA_7 (x := tkR v4 6) (by omega)
      refine s_istore_n kx_67_23 km_67_3 rfl ?_
      refine s_iload_n kx_67_24 rfl ?_
      rcases (by omega : what = 0 ∨ what = 1 ∨ what = 2 ∨ what = 3 ∨ (what < 0 ∨ 3 < what)) with hs5 | hs5 | hs5 | hs5 | hs5
      · refine s_tsw (t := 56) kx_67_25 (by decide) 0 hs5 (by decide) ?_
        refine s_iload_n kx_67_56 rfl ?_
        refine s_bipush (v := 7) kx_67_57 (by decide) ?_
        refine s_iand (z := (tkA v4 7)) kx_67_59 rfl ?_
        exact s_iret kx_67_60 (Or.inl kq_67) ⟨_, rfl, rfl, (pKq_yes (by omega) (by omega))⟩
      · refine s_tsw (t := 61) kx_67_25 (by decide) 1 hs5 (by decide) ?_
        refine s_iload_n kx_67_61 rfl ?_
        refine s_iconst (v := 3) kx_67_62 (by decide) ?_
        refine s_ishr (z := (tkR v4 3)) kx_67_63 rfl ?_
        refine s_bipush (v := 7) kx_67_64 (by decide) ?_
        refine s_iand (z := (tkA (tkR v4 3) 7)) kx_67_66 rfl ?_
        exact s_iret kx_67_67 (Or.inl kq_67) ⟨_, rfl, rfl, (pKq_yes (by omega) (by omega))⟩
      · refine s_tsw (t := 68) kx_67_25 (by decide) 2 hs5 (by decide) ?_
        refine s_iload_n kx_67_68 rfl ?_
        refine s_bipush (v := 6) kx_67_69 (by decide) ?_
        refine s_ishr (z := (tkR v4 6)) kx_67_71 rfl ?_
        refine s_bipush (v := 7) kx_67_72 (by decide) ?_
        refine s_iand (z := (tkA (tkR v4 6) 7)) kx_67_74 rfl ?_
        exact s_iret kx_67_75 (Or.inl kq_67) ⟨_, rfl, rfl, (pKq_yes (by omega) (by omega))⟩
      · refine s_tsw (t := 76) kx_67_25 (by decide) 3 hs5 (by decide) ?_
        refine s_iload_n kx_67_76 rfl ?_
        refine s_bipush (v := 9) kx_67_77 (by decide) ?_
        refine s_ishr (z := (tkR v4 9)) kx_67_79 rfl ?_
        exact s_iret kx_67_80 (Or.inl kq_67) ⟨_, rfl, rfl, (pKq_yes (by omega) (by omega))⟩
      · refine s_tswD (t := 81) kx_67_25 (by decide) hs5 (by decide) ?_
        refine s_iconst (v := (-1)) kx_67_81 (by decide) ?_
        exact s_iret kx_67_82 (Or.inl kq_67) ⟨_, rfl, rfl, (pKq_no (by omega))⟩
    · refine s_iconst (v := (-1)) kx_67_12 (by decide) ?_
      exact s_iret kx_67_13 (Or.inl kq_67) ⟨_, rfl, rfl, (pKq_no (by omega))⟩
theorem g_153 {xs : Nat → Int} {Ln d : Nat} {T : List cK} {M : cM} (hT : TT T) (hI : Rng M) {t : Nat} (ht : t = 8 ∨ t = 25) (h70 : M 7 0 = ((t : Nat) : Int)) {k what : Int} {D S : cM} (hC : CR D S t M) : cC k_P xs Ln (d + 2) 153 [rf 0, (0, k), (0, what)] (T, M) (qF T M 0 (fun v => v = pKq S k what)) := by
  show cP k_P xs Ln (d + 2) 153 0 [(0, rf 0), (1, (0, k)), (2, (0, what))] [] (T, M) _
  have hD := hC.2.1
  have hDr := hD.rg
  have hSW := hC.2.2.2.2.1
  refine s_aload_n kx_153_0 rfl ?_
  refine r_getR (k := 0) (f := 2) (k2 := 7) kx_153_1 kp_153_26 (tk_0 hT) kf_11_2 (by decide) (rq_0_2 hI) ?_
  refine s_iload_n kx_153_4 rfl ?_
  refine s_iload_n kx_153_5 rfl ?_
  refine s_callV2 (k := 7) (s1 := 3) (s2 := 0) (as := [(0, what), (0, k)]) (rest := []) kx_153_6 kp_153_259 (Or.inl rfl) rfl (tk_7 hT) ki_67 kcl_67 rfl rfl (by decide) (g_67 (d := d) (k := k) (what := what) hT hI ht h70 hC) (kF (fun v1 v1p => ?_))
  exact s_iret kx_153_9 (Or.inl kq_153) ⟨_, rfl, rfl, (by omega)⟩
theorem g_268 {xs : Nat → Int} {Ln d : Nat} {T : List cK} {M : cM} (hT : TT T) (hI : Rng M) {k what : Int} {D S : cM} (hR : RR D S M) : cC k_P xs Ln (d + 1) 268 [rf 63, (0, k), (0, what)] (T, M) (qF T M 0 (fun v => v = pKq S k what)) := by
  show cP k_P xs Ln (d + 1) 268 0 [(0, rf 63), (1, (0, k)), (2, (0, what))] [] (T, M) _
  have hD := hR.2.1
  have hDr := hD.rg
  have hSW := hR.2.2.2.2.1
  refine s_iload_n kx_268_0 rfl ?_
  refine s_iconst (v := 0) kx_268_1 (by decide) ?_
  refine s_aload_n kx_268_2 rfl ?_
  refine r_getR (k := 63) (f := 53) (k2 := 97) kx_268_3 kp_268_174 (tk_63 hT) kf_12_53 (by decide) (rq_63_53 hI) ?_
  refine s_iconst (v := 0) kx_268_6 (by decide) ?_
  refine r_ald (k := 97) kx_268_7 (tk_97 hT) ⟨by decide, by decide⟩ (rg_97 hI) (fun v1 v1e v1a v1b => ?_)
  have v1k : v1 = S 5 0 := v1e.symm.trans hR.k.1
  refine s_iconst (v := 1) kx_268_8 (by decide) ?_
  refine r_sub kx_268_9 ⟨by omega, by omega⟩ ?_
  refine s_callS2 (s1 := 3) (s2 := 0) (as := [(0, (v1 - 1)), (0, 0), (0, k)]) (rest := []) kx_268_10 kp_268_345 rfl kcl_172 rfl rfl (by decide) (m_172 (d := d) (v_ := k) (least := 0) (most := (v1 - 1)) hT hI) (kF (fun v2 v2p => ?_))
  refine s_if_eq (t := 25) kx_268_13 (by decide) (fun hc3 => ?_) (fun hc3 => ?_)
  · replace v2p := v2p.resolve_left (by omega)
    refine s_iconst (v := (-1)) kx_268_25 (by decide) ?_
    exact s_iret kx_268_26 (Or.inl kq_268) ⟨_, rfl, rfl, (pKq_no (by omega))⟩
  · replace v2p := v2p.resolve_right (by omega)
    refine s_iload_n kx_268_16 rfl ?_
    refine s_iconst (v := 0) kx_268_17 (by decide) ?_
    refine s_iconst (v := 3) kx_268_18 (by decide) ?_
    refine s_callS2 (s1 := 3) (s2 := 0) (as := [(0, 3), (0, 0), (0, what)]) (rest := []) kx_268_19 kp_268_345 rfl kcl_172 rfl rfl (by decide) (m_172 (d := d) (v_ := what) (least := 0) (most := 3) hT hI) (kF (fun v4 v4p => ?_))
    refine s_if_ne (t := 27) kx_268_22 (by decide) (fun hc5 => ?_) (fun hc5 => ?_)
    · replace v4p := v4p.resolve_right (by omega)
      refine s_iload_n kx_268_27 rfl ?_
      refine s_if_ne (t := 40) kx_268_28 (by decide) (fun hc6 => ?_) (fun hc6 => ?_)
      · refine s_iload_n kx_268_40 rfl ?_
        refine s_iconst (v := 1) kx_268_41 (by decide) ?_
        refine s_icmp_ne (t := 54) kx_268_42 (by decide) (fun hc7 => ?_) (fun hc7 => ?_)
        · refine s_iload_n kx_268_54 rfl ?_
          refine s_iconst (v := 2) kx_268_55 (by decide) ?_
          refine s_icmp_ne (t := 68) kx_268_56 (by decide) (fun hc8 => ?_) (fun hc8 => ?_)
          · refine s_aload_n kx_268_68 rfl ?_
            refine r_getR (k := 63) (f := 57) (k2 := 101) kx_268_69 kp_268_186 (tk_63 hT) kf_12_57 (by decide) (rq_63_57 hI) ?_
            refine s_iload_n kx_268_72 rfl ?_
            refine r_aldU (k := 101) kx_268_73 (tk_101 hT) ⟨by omega, by omega⟩ (fun v9 v9e => ?_)
            have v9k := KX.at hR.k (k := k) ⟨by omega, by omega⟩ (f := (k).toNat) (by omega)
            rw [v9e] at v9k
            exact s_iret kx_268_74 (Or.inl kq_268) ⟨_, rfl, rfl, (pKq_yes (by omega) (by omega))⟩
          · refine s_aload_n kx_268_59 rfl ?_
            refine r_getR (k := 63) (f := 56) (k2 := 100) kx_268_60 kp_268_183 (tk_63 hT) kf_12_56 (by decide) (rq_63_56 hI) ?_
            refine s_iload_n kx_268_63 rfl ?_
            refine r_aldU (k := 100) kx_268_64 (tk_100 hT) ⟨by omega, by omega⟩ (fun v10 v10e => ?_)
            have v10k := KX.at hR.k (k := k) ⟨by omega, by omega⟩ (f := (k).toNat) (by omega)
            rw [v10e] at v10k
            refine s_goto (t := 74) kx_268_65 (by decide) ?_
            exact s_iret kx_268_74 (Or.inl kq_268) ⟨_, rfl, rfl, (pKq_yes (by omega) (by omega))⟩
        · refine s_aload_n kx_268_45 rfl ?_
          refine r_getR (k := 63) (f := 55) (k2 := 99) kx_268_46 kp_268_180 (tk_63 hT) kf_12_55 (by decide) (rq_63_55 hI) ?_
          refine s_iload_n kx_268_49 rfl ?_
          refine r_aldU (k := 99) kx_268_50 (tk_99 hT) ⟨by omega, by omega⟩ (fun v11 v11e => ?_)
          have v11k := KX.at hR.k (k := k) ⟨by omega, by omega⟩ (f := (k).toNat) (by omega)
          rw [v11e] at v11k
          refine s_goto (t := 74) kx_268_51 (by decide) ?_
          exact s_iret kx_268_74 (Or.inl kq_268) ⟨_, rfl, rfl, (pKq_yes (by omega) (by omega))⟩
      · refine s_aload_n kx_268_31 rfl ?_
        refine r_getR (k := 63) (f := 54) (k2 := 98) kx_268_32 kp_268_177 (tk_63 hT) kf_12_54 (by decide) (rq_63_54 hI) ?_
        refine s_iload_n kx_268_35 rfl ?_
        refine r_aldU (k := 98) kx_268_36 (tk_98 hT) ⟨by omega, by omega⟩ (fun v12 v12e => ?_)
        have v12k := KX.at hR.k (k := k) ⟨by omega, by omega⟩ (f := (k).toNat) (by omega)
        rw [v12e] at v12k
        refine s_goto (t := 74) kx_268_37 (by decide) ?_
        exact s_iret kx_268_74 (Or.inl kq_268) ⟨_, rfl, rfl, (pKq_yes (by omega) (by omega))⟩
    · replace v4p := v4p.resolve_left (by omega)
      refine s_iconst (v := (-1)) kx_268_25 (by decide) ?_
      exact s_iret kx_268_26 (Or.inl kq_268) ⟨_, rfl, rfl, (pKq_no (by omega))⟩
