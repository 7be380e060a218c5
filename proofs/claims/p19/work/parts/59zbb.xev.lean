theorem e_298 {xs : Nat → Int} {Ln d : Nat} {T : List cK} {M : cM} (hT : TT T) (hI : Rng M) {a b : Int} (p0 : (-9223372036854775808) ≤ a ∧ a ≤ 9223372036854775807) (p1 : (-9223372036854775808) ≤ b ∧ b ≤ 9223372036854775807) : cC k_P xs Ln (d + 0) 298 [(1, a), (1, b)] (T, M) (qF T M 1 (fun v => (v = a ∨ v = b) ∧ a ≤ v ∧ b ≤ v)) := by
  show cP k_P xs Ln (d + 0) 298 0 [(0, (1, a)), (2, (1, b))] [] (T, M) _
  refine s_lload_n kx_298_0 rfl ?_
  refine s_lload_n kx_298_1 rfl ?_
  refine r_lcmpE kx_298_2 ⟨by omega, by omega⟩ ⟨by omega, by omega⟩ (fun v1 v1p => ?_)
  refine s_if_lt (t := 10) kx_298_3 (by decide) (fun hc2 => ?_) (fun hc2 => ?_)
  · refine s_lload_n kx_298_10 rfl ?_
    exact s_lret kx_298_11 kq_298 ⟨_, rfl, rfl, (by omega)⟩
  · refine s_lload_n kx_298_6 rfl ?_
    refine s_goto (t := 11) kx_298_7 (by decide) ?_
    exact s_lret kx_298_11 kq_298 ⟨_, rfl, rfl, (by omega)⟩
theorem e_300 {xs : Nat → Int} {Ln d : Nat} {T : List cK} {M : cM} (hT : TT T) (hI : Rng M) {a b : Int} (p0 : (-9223372036854775808) ≤ a ∧ a ≤ 9223372036854775807) (p1 : (-9223372036854775808) ≤ b ∧ b ≤ 9223372036854775807) : cC k_P xs Ln (d + 0) 300 [(1, a), (1, b)] (T, M) (qF T M 1 (fun v => (v = a ∨ v = b) ∧ v ≤ a ∧ v ≤ b)) := by
  show cP k_P xs Ln (d + 0) 300 0 [(0, (1, a)), (2, (1, b))] [] (T, M) _
  refine s_lload_n kx_300_0 rfl ?_
  refine s_lload_n kx_300_1 rfl ?_
  refine r_lcmpE kx_300_2 ⟨by omega, by omega⟩ ⟨by omega, by omega⟩ (fun v1 v1p => ?_)
  refine s_if_gt (t := 10) kx_300_3 (by decide) (fun hc2 => ?_) (fun hc2 => ?_)
  · refine s_lload_n kx_300_10 rfl ?_
    exact s_lret kx_300_11 kq_300 ⟨_, rfl, rfl, (by omega)⟩
  · refine s_lload_n kx_300_6 rfl ?_
    refine s_goto (t := 11) kx_300_7 (by decide) ?_
    exact s_lret kx_300_11 kq_300 ⟨_, rfl, rfl, (by omega)⟩
theorem e_295 {xs : Nat → Int} {Ln d : Nat} {T : List cK} {M : cM} (hT : TT T) (hI : Rng M) {a b : Int} (p0 : (-1000000) ≤ a ∧ a ≤ 1000000) (p1 : (-1000000) ≤ b ∧ b ≤ 1000000) (p2 : b ≠ 0) : cC k_P xs Ln (d + 0) 295 [(1, a), (1, b)] (T, M) (qF T M 1 (fun v => v = pFl a b)) := by
  show cP k_P xs Ln (d + 0) 295 0 [(0, (1, a)), (2, (1, b))] [] (T, M) _
  refine s_lload_n kx_295_0 rfl ?_
  refine s_lload_n kx_295_1 rfl ?_
  refine s_ldiv (z := (xLdiv a b)) kx_295_2 (by omega) rfl ?_
  refine s_lstore kx_295_3 km_295_5 rfl ?_
  refine s_lload_n kx_295_5 rfl ?_
  refine s_lload_n kx_295_6 rfl ?_
  refine s_lxor (z := (xLxor a b)) kx_295_7 rfl ?_
  have hq := xLdiv_eq p0 p1 p2
  have hqb := tdv_b p0 p2
  have hx := xLxor_neg p0 p1
  have hfl := fl_C p0 p1 p2 hq
  rw [← hq] at hqb
  have hqb1 := hqb.1
  have hqb3 := hqb.2.2
  have hp0 := p0
  have hp1 := p1
  have hxr : -9223372036854775808 ≤ xLxor a b ∧ xLxor a b ≤ 9223372036854775807 := i64_rg _
  unfold pBd at hp0 hp1 hqb1
  refine s_lconst (v := 0) kx_295_8 (by decide) ?_
  refine r_lcmpE kx_295_9 ⟨by omega, by omega⟩ ⟨by omega, by omega⟩ (fun v3 v3p => ?_)
  refine s_if_ge (t := 27) kx_295_10 (by decide) (fun hc4 => ?_) (fun hc4 => ?_)
  · refine s_lload kx_295_27 rfl ?_
    exact s_lret kx_295_29 kq_295 ⟨_, rfl, rfl, (by by_cases g : xLxor a b < 0; exact hfl.2.1 (by omega); exact hfl.1 (fun z => g (hx.mpr z)))⟩
  · refine s_lload kx_295_13 rfl ?_
    refine s_lload_n kx_295_15 rfl ?_
    refine r_lmulE kx_295_16 ⟨by omega, by omega⟩ ?_
    refine s_lload_n kx_295_17 rfl ?_
    refine r_lcmpE kx_295_18 ⟨by omega, by omega⟩ ⟨by omega, by omega⟩ (fun v6 v6p => ?_)
    refine s_if_eq (t := 27) kx_295_19 (by decide) (fun hc7 => ?_) (fun hc7 => ?_)
    · refine s_lload kx_295_27 rfl ?_
      exact s_lret kx_295_29 kq_295 ⟨_, rfl, rfl, (by by_cases g : xLxor a b < 0; exact hfl.2.1 (by omega); exact hfl.1 (fun z => g (hx.mpr z)))⟩
    · refine s_lload kx_295_22 rfl ?_
      refine s_lconst (v := 1) kx_295_24 (by decide) ?_
      refine r_lsubE kx_295_25 ⟨by omega, by omega⟩ ?_
      exact s_lret kx_295_26 kq_295 ⟨_, rfl, rfl, (hfl.2.2 (hx.mp (by omega)) (by omega))⟩
theorem e_296 {xs : Nat → Int} {Ln d : Nat} {T : List cK} {M : cM} (hT : TT T) (hI : Rng M) {a b : Int} (p0 : (-1000000) ≤ a ∧ a ≤ 1000000) (p1 : (-1000000) ≤ b ∧ b ≤ 1000000) (p2 : b ≠ 0) : cC k_P xs Ln (d + 0) 296 [(0, a), (0, b)] (T, M) (qF T M 0 (fun v => v = pRm a b)) := by
  show cP k_P xs Ln (d + 0) 296 0 [(0, (0, a)), (1, (0, b))] [] (T, M) _
  refine s_iload_n kx_296_0 rfl ?_
  refine s_iload_n kx_296_1 rfl ?_
  refine s_irem (z := (xIrem a b)) kx_296_2 (by omega) rfl ?_
  refine s_istore_n kx_296_3 km_296_2 rfl ?_
  refine s_iload_n kx_296_4 rfl ?_
  refine s_iload_n kx_296_5 rfl ?_
  refine s_ixor (z := (xIxor a b)) kx_296_6 rfl ?_
  have hq := xIrem_eq p0 p1 p2
  have hqb := tdv_b p0 p2
  have hx := xIxor_neg p0 p1
  have hrm := rm_C p0 p1 p2 hq
  have hp0 := p0
  have hp1 := p1
  have hqb3 := hqb.2.2
  unfold pBd at hp0 hp1
  refine s_if_ge (t := 18) kx_296_7 (by decide) (fun hc2 => ?_) (fun hc2 => ?_)
  · refine s_iload_n kx_296_18 rfl ?_
    exact s_iret kx_296_19 (Or.inl kq_296) ⟨_, rfl, rfl, (by by_cases g : xIxor a b < 0; exact hrm.1 (Or.inr (by omega)); exact hrm.1 (Or.inl (fun z => g (hx.mpr z))))⟩
  · refine s_iload_n kx_296_10 rfl ?_
    refine s_if_eq (t := 18) kx_296_11 (by decide) (fun hc3 => ?_) (fun hc3 => ?_)
    · refine s_iload_n kx_296_18 rfl ?_
      exact s_iret kx_296_19 (Or.inl kq_296) ⟨_, rfl, rfl, (by by_cases g : xIxor a b < 0; exact hrm.1 (Or.inr (by omega)); exact hrm.1 (Or.inl (fun z => g (hx.mpr z))))⟩
    · refine s_iload_n kx_296_14 rfl ?_
      refine s_iload_n kx_296_15 rfl ?_
      refine r_add kx_296_16 ⟨by omega, by omega⟩ ?_
      exact s_iret kx_296_17 (Or.inl kq_296) ⟨_, rfl, rfl, (hrm.2.1 (hx.mp (by omega)) (by omega))⟩
theorem e_12 {xs : Nat → Int} {Ln d : Nat} {T : List cK} {M : cM} (hT : TT T) (hI : Rng M) {step : Int} : cC k_P xs Ln (d + 0) 12 [(0, step)] (T, M) (qF T M 0 (fun v => 0 ≤ v ∧ v ≤ 3 ∧ ((v = 0 ∧ -6 ≤ step) ∨ (v = 3 ∧ step = -20) ∨ (v = 1 ∧ step = -19) ∨ (v = 2 ∧ step < -6 ∧ step ≠ -20 ∧ step ≠ -19)))) := by
  show cP k_P xs Ln (d + 0) 12 0 [(0, (0, step))] [] (T, M) _
  refine s_iload_n kx_12_0 rfl ?_
  refine s_bipush (v := (-6)) kx_12_1 (by decide) ?_
  refine s_icmp_lt (t := 8) kx_12_3 (by decide) (fun hc1 => ?_) (fun hc1 => ?_)
  · refine s_iload_n kx_12_8 rfl ?_
    refine s_bipush (v := (-20)) kx_12_9 (by decide) ?_
    refine s_icmp_ne (t := 16) kx_12_11 (by decide) (fun hc2 => ?_) (fun hc2 => ?_)
    · refine s_iload_n kx_12_16 rfl ?_
      refine s_bipush (v := (-19)) kx_12_17 (by decide) ?_
      refine s_icmp_ne (t := 26) kx_12_19 (by decide) (fun hc3 => ?_) (fun hc3 => ?_)
      · refine s_iconst (v := 2) kx_12_26 (by decide) ?_
        exact s_iret kx_12_27 (Or.inl kq_12) ⟨_, rfl, rfl, (by omega)⟩
      · refine s_iconst (v := 1) kx_12_22 (by decide) ?_
        refine s_goto (t := 27) kx_12_23 (by decide) ?_
        exact s_iret kx_12_27 (Or.inl kq_12) ⟨_, rfl, rfl, (by omega)⟩
    · refine s_iconst (v := 3) kx_12_14 (by decide) ?_
      exact s_iret kx_12_15 (Or.inl kq_12) ⟨_, rfl, rfl, (by omega)⟩
  · refine s_iconst (v := 0) kx_12_6 (by decide) ?_
    exact s_iret kx_12_7 (Or.inl kq_12) ⟨_, rfl, rfl, (by omega)⟩
theorem e_14 {xs : Nat → Int} {Ln d : Nat} {T : List cK} {M : cM} (hT : TT T) (hI : Rng M) {worth : Int} (p0 : (-9223372036854775808) ≤ worth ∧ worth ≤ 9223372036854775807) : cC k_P xs Ln (d + 1) 14 [(1, worth)] (T, M) (qF T M 0 (fun v => v = pLm worth)) := by
  show cP k_P xs Ln (d + 1) 14 0 [(0, (1, worth))] [] (T, M) _
  refine s_ldc2_w kx_14_0 kp_14_56 ?_
  refine s_ldc2_w kx_14_3 kp_14_58 ?_
  refine s_lload_n kx_14_6 rfl ?_
  refine s_callS2 (s1 := 4) (s2 := 2) (as := [(1, worth), (1, 1000000)]) (rest := [(1, (-1000000))]) kx_14_7 kp_14_60 rfl kcl_300 rfl rfl (by decide) (e_300 (d := d) (a := 1000000) (b := worth) hT hI (by omega) (by omega)) (kF (fun v1 v1p => ?_))
  refine s_callS2 (s1 := 4) (s2 := 0) (as := [(1, v1), (1, (-1000000))]) (rest := []) kx_14_10 kp_14_62 rfl kcl_298 rfl rfl (by decide) (e_298 (d := d) (a := (-1000000)) (b := v1) hT hI (by omega) (by omega)) (kF (fun v2 v2p => ?_))
  refine r_l2iE kx_14_13 (by omega) (by omega) ?_
  exact s_iret kx_14_14 (Or.inl kq_14) ⟨_, rfl, rfl, (by unfold pLm; (repeat' split) <;> omega)⟩
theorem e_13 {xs : Nat → Int} {Ln d : Nat} {T : List cK} {M : cM} (hT : TT T) (hI : Rng M) {step a b : Int} (p0 : (-18) ≤ step ∧ step ≤ (-7)) (p1 : (-1000000) ≤ a ∧ a ≤ 1000000) (p2 : (-1000000) ≤ b ∧ b ≤ 1000000) (p3 : (step = -17 ∨ step = -18) → (a = 0 ∨ a = 1) ∧ (b = 0 ∨ b = 1)) : cC k_P xs Ln (d + 2) 13 [(0, step), (0, a), (0, b)] (T, M) (qF T M 0 (fun v => v = pCb step a b)) := by
  show cP k_P xs Ln (d + 2) 13 0 [(0, (0, step)), (1, (0, a)), (2, (0, b))] [] (T, M) _
  have hmb := mul_b p1 p2
  refine s_iload_n kx_13_0 rfl ?_
  rcases (by omega : step = (-18) ∨ step = (-17) ∨ step = (-16) ∨ step = (-15) ∨ step = (-14) ∨ step = (-13) ∨ step = (-12) ∨ step = (-11) ∨ step = (-10) ∨ step = (-9) ∨ step = (-8) ∨ step = (-7)) with hs1 | hs1 | hs1 | hs1 | hs1 | hs1 | hs1 | hs1 | hs1 | hs1 | hs1 | hs1
  · refine s_tsw (t := 173) kx_13_1 (by decide) (-18) hs1 (by decide) ?_
    refine s_iload_n kx_13_173 rfl ?_
    refine s_iload_n kx_13_174 rfl ?_
    refine s_ior (z := (xIor a b)) kx_13_175 rfl ?_
    exact s_iret kx_13_176 (Or.inl kq_13) ⟨_, rfl, rfl, (by unfold pCb; rw [if_neg (by omega), if_neg (by omega), if_neg (by omega), if_neg (by omega), if_neg (by omega), if_neg (by omega), if_neg (by omega), if_neg (by omega), if_neg (by omega), if_neg (by omega), if_neg (by omega)]; exact (and_f (x := 0) (p3 (by omega)).1 (p3 (by omega)).2).2.1)⟩
  · refine s_tsw (t := 169) kx_13_1 (by decide) (-17) hs1 (by decide) ?_
    refine s_iload_n kx_13_169 rfl ?_
    refine s_iload_n kx_13_170 rfl ?_
    refine s_iand (z := (xIand a b)) kx_13_171 rfl ?_
    exact s_iret kx_13_172 (Or.inl kq_13) ⟨_, rfl, rfl, (by unfold pCb; rw [if_neg (by omega), if_neg (by omega), if_neg (by omega), if_neg (by omega), if_neg (by omega), if_neg (by omega), if_neg (by omega), if_neg (by omega), if_neg (by omega), if_neg (by omega), if_pos (by omega)]; exact (and_f (x := 0) (p3 (by omega)).1 (p3 (by omega)).2).1)⟩
  · refine s_tsw (t := 158) kx_13_1 (by decide) (-16) hs1 (by decide) ?_
    refine s_iload_n kx_13_158 rfl ?_
    refine s_iload_n kx_13_159 rfl ?_
    refine s_icmp_ne (t := 167) kx_13_160 (by decide) (fun hc4 => ?_) (fun hc4 => ?_)
    · refine s_iconst (v := 0) kx_13_167 (by decide) ?_
      exact s_iret kx_13_168 (Or.inl kq_13) ⟨_, rfl, rfl, (by unfold pCb; rw [if_neg (by omega), if_neg (by omega), if_neg (by omega), if_neg (by omega), if_neg (by omega), if_neg (by omega), if_neg (by omega), if_neg (by omega), if_neg (by omega), if_pos (by omega)]; split <;> omega)⟩
    · refine s_iconst (v := 1) kx_13_163 (by decide) ?_
      refine s_goto (t := 168) kx_13_164 (by decide) ?_
      exact s_iret kx_13_168 (Or.inl kq_13) ⟨_, rfl, rfl, (by unfold pCb; rw [if_neg (by omega), if_neg (by omega), if_neg (by omega), if_neg (by omega), if_neg (by omega), if_neg (by omega), if_neg (by omega), if_neg (by omega), if_neg (by omega), if_pos (by omega)]; split <;> omega)⟩
  · refine s_tsw (t := 147) kx_13_1 (by decide) (-15) hs1 (by decide) ?_
    refine s_iload_n kx_13_147 rfl ?_
    refine s_iload_n kx_13_148 rfl ?_
    refine s_icmp_le (t := 156) kx_13_149 (by decide) (fun hc5 => ?_) (fun hc5 => ?_)
    · refine s_iconst (v := 0) kx_13_156 (by decide) ?_
      exact s_iret kx_13_157 (Or.inl kq_13) ⟨_, rfl, rfl, (by unfold pCb; rw [if_neg (by omega), if_neg (by omega), if_neg (by omega), if_neg (by omega), if_neg (by omega), if_neg (by omega), if_neg (by omega), if_neg (by omega), if_pos (by omega)]; split <;> omega)⟩
    · refine s_iconst (v := 1) kx_13_152 (by decide) ?_
      refine s_goto (t := 157) kx_13_153 (by decide) ?_
      exact s_iret kx_13_157 (Or.inl kq_13) ⟨_, rfl, rfl, (by unfold pCb; rw [if_neg (by omega), if_neg (by omega), if_neg (by omega), if_neg (by omega), if_neg (by omega), if_neg (by omega), if_neg (by omega), if_neg (by omega), if_pos (by omega)]; split <;> omega)⟩
  · refine s_tsw (t := 136) kx_13_1 (by decide) (-14) hs1 (by decide) ?_
    refine s_iload_n kx_13_136 rfl ?_
    refine s_iload_n kx_13_137 rfl ?_
    refine s_icmp_ge (t := 145) kx_13_138 (by decide) (fun hc6 => ?_) (fun hc6 => ?_)
    · refine s_iconst (v := 0) kx_13_145 (by decide) ?_
      exact s_iret kx_13_146 (Or.inl kq_13) ⟨_, rfl, rfl, (by unfold pCb; rw [if_neg (by omega), if_neg (by omega), if_neg (by omega), if_neg (by omega), if_neg (by omega), if_neg (by omega), if_neg (by omega), if_pos (by omega)]; split <;> omega)⟩
    · refine s_iconst (v := 1) kx_13_141 (by decide) ?_
      refine s_goto (t := 146) kx_13_142 (by decide) ?_
      exact s_iret kx_13_146 (Or.inl kq_13) ⟨_, rfl, rfl, (by unfold pCb; rw [if_neg (by omega), if_neg (by omega), if_neg (by omega), if_neg (by omega), if_neg (by omega), if_neg (by omega), if_neg (by omega), if_pos (by omega)]; split <;> omega)⟩
  · refine s_tsw (t := 130) kx_13_1 (by decide) (-13) hs1 (by decide) ?_
    refine s_iload_n kx_13_130 rfl ?_
    refine s_iload_n kx_13_131 rfl ?_
    refine s_callS2 (s1 := 2) (s2 := 0) (as := [(0, b), (0, a)]) (rest := []) kx_13_132 kp_13_42 rfl kcl_297 rfl rfl (by decide) (m_297 (d := d + 1) (a := a) (b := b) hT hI) (kF (fun v7 v7p => ?_))
    exact s_iret kx_13_135 (Or.inl kq_13) ⟨_, rfl, rfl, (by unfold pCb; rw [if_neg (by omega), if_neg (by omega), if_neg (by omega), if_neg (by omega), if_neg (by omega), if_neg (by omega), if_pos (by omega)]; split <;> omega)⟩
  · refine s_tsw (t := 124) kx_13_1 (by decide) (-12) hs1 (by decide) ?_
    refine s_iload_n kx_13_124 rfl ?_
    refine s_iload_n kx_13_125 rfl ?_
    refine s_callS2 (s1 := 2) (s2 := 0) (as := [(0, b), (0, a)]) (rest := []) kx_13_126 kp_13_36 rfl kcl_299 rfl rfl (by decide) (m_299 (d := d + 1) (a := a) (b := b) hT hI) (kF (fun v8 v8p => ?_))
    exact s_iret kx_13_129 (Or.inl kq_13) ⟨_, rfl, rfl, (by unfold pCb; rw [if_neg (by omega), if_neg (by omega), if_neg (by omega), if_neg (by omega), if_neg (by omega), if_pos (by omega)]; split <;> omega)⟩
  · refine s_tsw (t := 110) kx_13_1 (by decide) (-11) hs1 (by decide) ?_
    refine s_iload_n kx_13_110 rfl ?_
    refine s_if_ne (t := 118) kx_13_111 (by decide) (fun hc9 => ?_) (fun hc9 => ?_)
    · refine s_iload_n kx_13_118 rfl ?_
      refine s_iload_n kx_13_119 rfl ?_
      refine s_callS2 (s1 := 2) (s2 := 0) (as := [(0, b), (0, a)]) (rest := []) kx_13_120 kp_13_53 rfl kcl_296 rfl rfl (by decide) (e_296 (d := d + 1) (a := a) (b := b) hT hI p1 p2 (by omega)) (kF (fun v10 v10p => ?_))
      exact s_iret kx_13_123 (Or.inl kq_13) ⟨_, rfl, rfl, (by unfold pCb; rw [if_neg (by omega), if_neg (by omega), if_neg (by omega), if_neg (by omega), if_pos (by omega)]; exact v10p)⟩
    · refine s_iconst (v := 0) kx_13_114 (by decide) ?_
      refine s_goto (t := 123) kx_13_115 (by decide) ?_
      exact s_iret kx_13_123 (Or.inl kq_13) ⟨_, rfl, rfl, (by unfold pCb; rw [if_neg (by omega), if_neg (by omega), if_neg (by omega), if_neg (by omega), if_pos (by omega)]; unfold pRm; rw [if_neg (by omega), if_neg (by omega)])⟩
  · refine s_tsw (t := 91) kx_13_1 (by decide) (-10) hs1 (by decide) ?_
    refine s_iload_n kx_13_91 rfl ?_
    refine s_if_ne (t := 99) kx_13_92 (by decide) (fun hc11 => ?_) (fun hc11 => ?_)
    · refine s_iload_n kx_13_99 rfl ?_
      refine s_i2l kx_13_100 ?_
      refine s_iload_n kx_13_101 rfl ?_
      refine s_i2l kx_13_102 ?_
      refine s_callS2 (s1 := 4) (s2 := 0) (as := [(1, b), (1, a)]) (rest := []) kx_13_103 kp_13_49 rfl kcl_295 rfl rfl (by decide) (e_295 (d := d + 1) (a := a) (b := b) hT hI p1 p2 (by omega)) (kF (fun v12 v12p => ?_))
      have hfb := (tdv_b p1 (show b ≠ 0 by omega)).2.1
      rw [← v12p] at hfb
      unfold pBd at hfb
      refine s_callS2 (s1 := 2) (s2 := 0) (as := [(1, v12)]) (rest := []) kx_13_106 kp_13_45 rfl kcl_14 rfl rfl (by decide) (e_14 (d := d) (worth := v12) hT hI (by omega)) (kF (fun v13 v13p => ?_))
      exact s_iret kx_13_109 (Or.inl kq_13) ⟨_, rfl, rfl, (by unfold pCb; rw [if_neg (by omega), if_neg (by omega), if_neg (by omega), if_pos (by omega)]; rw [← v12p]; exact v13p)⟩
    · refine s_iconst (v := 0) kx_13_95 (by decide) ?_
      refine s_goto (t := 109) kx_13_96 (by decide) ?_
      exact s_iret kx_13_109 (Or.inl kq_13) ⟨_, rfl, rfl, (by unfold pCb; rw [if_neg (by omega), if_neg (by omega), if_neg (by omega), if_pos (by omega)]; unfold pFl; rw [if_neg (by omega), if_neg (by omega)]; rfl)⟩
  · refine s_tsw (t := 82) kx_13_1 (by decide) (-9) hs1 (by decide) ?_
    refine s_iload_n kx_13_82 rfl ?_
    refine s_i2l kx_13_83 ?_
    refine s_iload_n kx_13_84 rfl ?_
    refine s_i2l kx_13_85 ?_
    refine r_lmulE kx_13_86 ⟨by omega, by omega⟩ ?_
    refine s_callS2 (s1 := 2) (s2 := 0) (as := [(1, (a * b))]) (rest := []) kx_13_87 kp_13_45 rfl kcl_14 rfl rfl (by decide) (e_14 (d := d) (worth := (a * b)) hT hI (by omega)) (kF (fun v15 v15p => ?_))
    exact s_iret kx_13_90 (Or.inl kq_13) ⟨_, rfl, rfl, (by unfold pCb; rw [if_neg (by omega), if_neg (by omega), if_pos (by omega)]; exact v15p)⟩
  · refine s_tsw (t := 73) kx_13_1 (by decide) (-8) hs1 (by decide) ?_
    refine s_iload_n kx_13_73 rfl ?_
    refine s_i2l kx_13_74 ?_
    refine s_iload_n kx_13_75 rfl ?_
    refine s_i2l kx_13_76 ?_
    refine r_lsubE kx_13_77 ⟨by omega, by omega⟩ ?_
    refine s_callS2 (s1 := 2) (s2 := 0) (as := [(1, (a - b))]) (rest := []) kx_13_78 kp_13_45 rfl kcl_14 rfl rfl (by decide) (e_14 (d := d) (worth := (a - b)) hT hI (by omega)) (kF (fun v17 v17p => ?_))
    exact s_iret kx_13_81 (Or.inl kq_13) ⟨_, rfl, rfl, (by unfold pCb; rw [if_neg (by omega), if_pos (by omega)]; exact v17p)⟩
  · refine s_tsw (t := 64) kx_13_1 (by decide) (-7) hs1 (by decide) ?_
    refine s_iload_n kx_13_64 rfl ?_
    refine s_i2l kx_13_65 ?_
    refine s_iload_n kx_13_66 rfl ?_
    refine s_i2l kx_13_67 ?_
    refine r_laddE kx_13_68 ⟨by omega, by omega⟩ ?_
    refine s_callS2 (s1 := 2) (s2 := 0) (as := [(1, (a + b))]) (rest := []) kx_13_69 kp_13_45 rfl kcl_14 rfl rfl (by decide) (e_14 (d := d) (worth := (a + b)) hT hI (by omega)) (kF (fun v19 v19p => ?_))
    exact s_iret kx_13_72 (Or.inl kq_13) ⟨_, rfl, rfl, (by unfold pCb; rw [if_pos (by omega)]; exact v19p)⟩
def eS_11_l4 : List (Nat × Nat) := [(20, 99999), (23, 99999), (37, 99999), (40, 99999)]
def eS_11_m : List (Nat × Nat) := [(20, 99999), (23, 99999), (37, 99999), (40, 99999)]
theorem e_11 {xs : Nat → Int} {Ln d : Nat} {T : List cK} {M : cM} (hT : TT T) (hI : Rng M) {f : Nat} (hf : fF f) (hG : Gm T M) {g : Int → Int} {cs : List Int} {w : Int} (hlen : M f 2 = (cs.length : Int)) (hcs : ∀ q : Nat, q < cs.length → M (M f 1).toNat q = cs.getD q 0) (hX : pXr 64 g cs [] = some [w]) (hg : pBg g) (hgv : ∀ c : Int, -6 ≤ c → c ≤ -1 → M 43 (-1 - c).toNat = g c) : cC k_P xs Ln (d + 3) 11 [rf f, rf 43] (T, M) (qW T M eS_11_m 0 (fun v M1 => 0 ≤ v ∧ v ≤ 999 ∧ (v = pEv g cs))) := by
  show cP k_P xs Ln (d + 3) 11 0 [(0, rf f), (1, rf 43)] [] (T, M) _
  have hFm : Fr eS_11_m M M := Fr.refl
  obtain ⟨nn, hg1, _⟩ := id hG
  obtain ⟨s, hs, hsA, h32, h3200, hsz, hs2⟩ := hg1 f hf
  have hfc := hf.cases
  have hcs2 : ∀ q : Nat, q < cs.length → M s q = cs.getD q 0 := fun q hq => by rw [← hcs q hq, hs, Int.toNat_natCast]
  refine s_iconst (v := 0) kx_11_0 (by decide) ?_
  refine s_istore_n kx_11_1 km_11_2 rfl ?_
  refine s_iconst (v := 0) kx_11_2 (by decide) ?_
  refine s_istore_n kx_11_3 km_11_3 rfl ?_
  have key4 : ∀ n5 : Nat, ∀ (x2_1 x3_2 : Int), ∀ M3 : cM, Rng M3 → Fr eS_11_m M M3 → Fr eS_11_l4 M M3 → (0 ≤ x2_1) → (x2_1 ≤ 64) → (0 ≤ x3_2) → (x3_2 ≤ 1600) → (∀ q : Nat, M3 s q = M s q) → (x3_2 ≤ (cs.length : Int)) → (EvI 64 g cs x3_2 x2_1 M3 (f + 1)) → (2147483647 - x3_2).toNat < n5 → cP k_P xs Ln (d + 3) 11 4 [(0, rf f), (1, rf 43), (2, (0, x2_1)), (3, (0, x3_2))] [] (T, M3) (qW T M eS_11_m 0 (fun v M1 => 0 ≤ v ∧ v ≤ 999 ∧ (v = pEv g cs))) := by
    intro n5
    induction n5 with
    | zero => intro x2_1 x3_2 M3 hI3 hFm3 fl3 i6 i7 i8 i9 i10 i11 i12 hm13; exact absurd hm13 (Nat.not_lt_zero _)
    | succ n5 ih14 =>
      intro x2_1 x3_2 M3 hI3 hFm3 fl3 i6 i7 i8 i9 i10 i11 i12 hm13
      refine s_iload_n kx_11_4 rfl ?_
      refine s_aload_n kx_11_5 rfl ?_
      refine r_getI (k := f) (f := 2) kx_11_6 kp_11_18 (tkf_0 hT hf) kf_1_2 (fun _ => rfl) (rgf_0_2 hI3 hf) (fun v15 v15e v15a v15b => ?_)
      have v15z : M f 2 = v15 := ((fl3 f 2 (by rcases hf with rfl | rfl | rfl | rfl <;> rfl))).symm.trans v15e
      refine s_icmp_ge (t := 209) kx_11_9 (by decide) (fun hc16 => ?_) (fun hc16 => ?_)
      · have hen := EvI.end i12 (by omega) hX
        have ⟨hen1, hen2, hen3⟩ := hen
        unfold pBd at hen3
        refine s_iload_n kx_11_209 rfl ?_
        refine s_if_le (t := 234) kx_11_210 (by decide) (fun hc17 => ?_) (fun hc17 => ?_)
        · refine s_iconst (v := 0) kx_11_234 (by decide) ?_
          exact s_iret kx_11_235 (Or.inl kq_11) ⟨_, _, rfl, rfl, hI3, hFm3, ⟨by omega, by omega, by omega⟩⟩
        · refine s_iconst (v := 0) kx_11_213 (by decide) ?_
          refine s_sipush (v := 999) kx_11_214 (by decide) ?_
          refine s_aload_n kx_11_217 rfl ?_
          refine r_getR (k := f) (f := 0) (k2 := (f + 1)) kx_11_218 kp_11_9 (tkf_0 hT hf) kf_1_0 (by decide) (rqf_0 hI3 hf) ?_
          refine s_iload_n kx_11_221 rfl ?_
          refine s_iconst (v := 1) kx_11_222 (by decide) ?_
          refine r_sub kx_11_223 ⟨by omega, by omega⟩ ?_
          refine r_aldU (k := (f + 1)) kx_11_224 (tkf_1 hT hf) ⟨by omega, by omega⟩ (fun v18 v18e => ?_)
          have hyw : v18 = w := (v18e).symm.trans ((congrArg _ (by omega)).trans hen2)
          refine s_callS2 (s1 := 2) (s2 := 1) (as := [(0, v18), (0, 999)]) (rest := [(0, 0)]) kx_11_225 kp_11_36 rfl kcl_299 rfl rfl (by decide) (m_299 (d := d + 2) (a := 999) (b := v18) hT hI3) (kF (fun v19 v19p => ?_))
          refine s_callS2 (s1 := 2) (s2 := 0) (as := [(0, v19), (0, 0)]) (rest := []) kx_11_228 kp_11_42 rfl kcl_297 rfl rfl (by decide) (m_297 (d := d + 2) (a := 0) (b := v19) hT hI3) (kF (fun v20 v20p => ?_))
          refine s_goto (t := 235) kx_11_231 (by decide) ?_
          exact s_iret kx_11_235 (Or.inl kq_11) ⟨_, _, rfl, rfl, hI3, hFm3, ⟨by omega, by omega, (by rw [pEv_eq hX]; unfold pXt; (repeat' split) <;> omega)⟩⟩
      · refine s_iload_n kx_11_12 rfl ?_
        refine s_aload_n kx_11_13 rfl ?_
        refine r_getR (k := f) (f := 1) (k2 := s) kx_11_14 kp_11_15 (tkf_0 hT hf) kf_1_1 (by decide) ((fl3 f 1 (by rcases hf with rfl | rfl | rfl | rfl <;> rfl)).trans hs) ?_
        refine r_alen (k := s) kx_11_17 hsA ⟨by decide, by omega⟩ ?_
        refine s_icmp_ge (t := 209) kx_11_18 (by decide) (fun hc21 => ?_) (fun hc21 => ?_)
        · have hen := EvI.end i12 (by omega) hX
          have ⟨hen1, hen2, hen3⟩ := hen
          unfold pBd at hen3
          refine s_iload_n kx_11_209 rfl ?_
          refine s_if_le (t := 234) kx_11_210 (by decide) (fun hc22 => ?_) (fun hc22 => ?_)
          · refine s_iconst (v := 0) kx_11_234 (by decide) ?_
            exact s_iret kx_11_235 (Or.inl kq_11) ⟨_, _, rfl, rfl, hI3, hFm3, ⟨by omega, by omega, by omega⟩⟩
          · refine s_iconst (v := 0) kx_11_213 (by decide) ?_
            refine s_sipush (v := 999) kx_11_214 (by decide) ?_
            refine s_aload_n kx_11_217 rfl ?_
            refine r_getR (k := f) (f := 0) (k2 := (f + 1)) kx_11_218 kp_11_9 (tkf_0 hT hf) kf_1_0 (by decide) (rqf_0 hI3 hf) ?_
            refine s_iload_n kx_11_221 rfl ?_
            refine s_iconst (v := 1) kx_11_222 (by decide) ?_
            refine r_sub kx_11_223 ⟨by omega, by omega⟩ ?_
            refine r_aldU (k := (f + 1)) kx_11_224 (tkf_1 hT hf) ⟨by omega, by omega⟩ (fun v23 v23e => ?_)
            have hyw : v23 = w := (v23e).symm.trans ((congrArg _ (by omega)).trans hen2)
            refine s_callS2 (s1 := 2) (s2 := 1) (as := [(0, v23), (0, 999)]) (rest := [(0, 0)]) kx_11_225 kp_11_36 rfl kcl_299 rfl rfl (by decide) (m_299 (d := d + 2) (a := 999) (b := v23) hT hI3) (kF (fun v24 v24p => ?_))
            refine s_callS2 (s1 := 2) (s2 := 0) (as := [(0, v24), (0, 0)]) (rest := []) kx_11_228 kp_11_42 rfl kcl_297 rfl rfl (by decide) (m_297 (d := d + 2) (a := 0) (b := v24) hT hI3) (kF (fun v25 v25p => ?_))
            refine s_goto (t := 235) kx_11_231 (by decide) ?_
            exact s_iret kx_11_235 (Or.inl kq_11) ⟨_, _, rfl, rfl, hI3, hFm3, ⟨by omega, by omega, (by rw [pEv_eq hX]; unfold pXt; (repeat' split) <;> omega)⟩⟩
        · refine s_aload_n kx_11_21 rfl ?_
          refine r_getR (k := f) (f := 1) (k2 := s) kx_11_22 kp_11_15 (tkf_0 hT hf) kf_1_1 (by decide) ((fl3 f 1 (by rcases hf with rfl | rfl | rfl | rfl <;> rfl)).trans hs) ?_
          refine s_iload_n kx_11_25 rfl ?_
          refine r_aldU (k := s) kx_11_26 hsA ⟨by omega, by omega⟩ (fun v26 v26e => ?_)
          have v26c : cs.getD (x3_2).toNat 0 = v26 := (hcs2 (x3_2).toNat (by omega)).symm.trans ((i10 (x3_2).toNat).symm.trans v26e)
          refine s_callS2 (s1 := 1) (s2 := 0) (as := [(0, v26)]) (rest := []) kx_11_27 kp_11_28 rfl kcl_12 rfl rfl (by decide) (e_12 (d := d + 2) (step := v26) hT hI3) (kF (fun v27 v27p => ?_))
          have hnd := EvI.need i12 (by rw [hX]; exact Option.some_ne_none _) hg ⟨by omega, by omega⟩ v26c
          refine s_istore kx_11_30 km_11_4 rfl ?_
          refine s_iload_n kx_11_32 rfl ?_
          refine s_iload kx_11_33 rfl ?_
          refine s_icmp_lt (t := 50) kx_11_35 (by decide) (fun hc28 => ?_) (fun hc28 => ?_)
          · exfalso
            omega
          · refine s_iload_n kx_11_38 rfl ?_
            refine s_iload kx_11_39 rfl ?_
            refine r_sub kx_11_41 ⟨by omega, by omega⟩ ?_
            refine s_aload_n kx_11_42 rfl ?_
            refine r_getR (k := f) (f := 0) (k2 := (f + 1)) kx_11_43 kp_11_9 (tkf_0 hT hf) kf_1_0 (by decide) (rqf_0 hI3 hf) ?_
            refine r_alen (k := (f + 1)) kx_11_46 (tkf_1 hT hf) ⟨by decide, by decide⟩ ?_
            refine s_icmp_lt (t := 52) kx_11_47 (by decide) (fun hc29 => ?_) (fun hc29 => ?_)
            · refine s_iload_n kx_11_52 rfl ?_
              refine s_iload kx_11_53 rfl ?_
              refine r_sub kx_11_55 ⟨by omega, by omega⟩ ?_
              refine s_istore_n kx_11_56 km_11_2 rfl ?_
              refine s_iload kx_11_57 rfl ?_
              refine s_if_ne (t := 99) kx_11_59 (by decide) (fun hc30 => ?_) (fun hc30 => ?_)
              · refine s_iload kx_11_99 rfl ?_
                refine s_iconst (v := 1) kx_11_101 (by decide) ?_
                refine s_icmp_ne (t := 128) kx_11_102 (by decide) (fun hc31 => ?_) (fun hc31 => ?_)
                · refine s_iload kx_11_128 rfl ?_
                  refine s_iconst (v := 2) kx_11_130 (by decide) ?_
                  refine s_icmp_ne (t := 166) kx_11_131 (by decide) (fun hc32 => ?_) (fun hc32 => ?_)
                  · refine s_aload_n kx_11_166 rfl ?_
                    refine r_getR (k := f) (f := 0) (k2 := (f + 1)) kx_11_167 kp_11_9 (tkf_0 hT hf) kf_1_0 (by decide) (rqf_0 hI3 hf) ?_
                    refine s_iload_n kx_11_170 rfl ?_
                    refine s_aload_n kx_11_171 rfl ?_
                    refine r_getR (k := f) (f := 0) (k2 := (f + 1)) kx_11_172 kp_11_9 (tkf_0 hT hf) kf_1_0 (by decide) (rqf_0 hI3 hf) ?_
                    refine s_iload_n kx_11_175 rfl ?_
                    refine r_aldU (k := (f + 1)) kx_11_176 (tkf_1 hT hf) ⟨by omega, by omega⟩ (fun v33 v33e => ?_)
                    refine s_if_eq (t := 191) kx_11_177 (by decide) (fun hc34 => ?_) (fun hc34 => ?_)
                    · refine s_aload_n kx_11_191 rfl ?_
                      refine r_getR (k := f) (f := 0) (k2 := (f + 1)) kx_11_192 kp_11_9 (tkf_0 hT hf) kf_1_0 (by decide) (rqf_0 hI3 hf) ?_
                      refine s_iload_n kx_11_195 rfl ?_
                      refine s_iconst (v := 2) kx_11_196 (by decide) ?_
                      refine r_add kx_11_197 ⟨by omega, by omega⟩ ?_
                      refine r_aldU (k := (f + 1)) kx_11_198 (tkf_1 hT hf) ⟨by omega, by omega⟩ (fun v35 v35e => ?_)
                      refine r_ast (k := (f + 1)) kx_11_199 (tkf_1 hT hf) ⟨by omega, by omega⟩ hI3 (ruf_1 hf) (fun M36 hI36 u36 => ?_)
                      have hFm36 := hFm3.up u36 (by rcases hf with rfl | rfl | rfl | rfl <;> rfl)
                      have hFl436 := fl3.up u36 (by rcases hf with rfl | rfl | rfl | rfl <;> rfl)
                      refine r_iinc kx_11_200 rfl km_11_2 (by decide) ⟨by omega, by omega⟩ rfl ?_
                      refine r_iinc kx_11_203 rfl km_11_3 (by decide) ⟨by omega, by omega⟩ rfl ?_
                      refine s_goto (t := 4) kx_11_206 (by decide) ?_
                      exact cP.wk (lS1 rfl (lS1 rfl (lS1 rfl (lS1 rfl lS0)))) (ih14 ((x2_1 - v27) + 1) (x3_2 + 1) M36 hI36 hFm36 hFl436 (by omega) (by omega) (by omega) (by omega) (fun q => (u36.2 s q (by omega)).trans (i10 q)) (by omega) (EvI.ite i12 (by rw [hX]; exact Option.some_ne_none _) hg ⟨by omega, by omega⟩ v26c (by omega) v33e u36 (by omega) (fun z => Or.inr ⟨by omega, (v35e).symm.trans (congrArg _ (by omega))⟩) (by omega)) (by omega))
                    · refine s_aload_n kx_11_180 rfl ?_
                      refine r_getR (k := f) (f := 0) (k2 := (f + 1)) kx_11_181 kp_11_9 (tkf_0 hT hf) kf_1_0 (by decide) (rqf_0 hI3 hf) ?_
                      refine s_iload_n kx_11_184 rfl ?_
                      refine s_iconst (v := 1) kx_11_185 (by decide) ?_
                      refine r_add kx_11_186 ⟨by omega, by omega⟩ ?_
                      refine r_aldU (k := (f + 1)) kx_11_187 (tkf_1 hT hf) ⟨by omega, by omega⟩ (fun v37 v37e => ?_)
                      refine s_goto (t := 199) kx_11_188 (by decide) ?_
                      refine r_ast (k := (f + 1)) kx_11_199 (tkf_1 hT hf) ⟨by omega, by omega⟩ hI3 (ruf_1 hf) (fun M38 hI38 u38 => ?_)
                      have hFm38 := hFm3.up u38 (by rcases hf with rfl | rfl | rfl | rfl <;> rfl)
                      have hFl438 := fl3.up u38 (by rcases hf with rfl | rfl | rfl | rfl <;> rfl)
                      refine r_iinc kx_11_200 rfl km_11_2 (by decide) ⟨by omega, by omega⟩ rfl ?_
                      refine r_iinc kx_11_203 rfl km_11_3 (by decide) ⟨by omega, by omega⟩ rfl ?_
                      refine s_goto (t := 4) kx_11_206 (by decide) ?_
                      exact cP.wk (lS1 rfl (lS1 rfl (lS1 rfl (lS1 rfl lS0)))) (ih14 ((x2_1 - v27) + 1) (x3_2 + 1) M38 hI38 hFm38 hFl438 (by omega) (by omega) (by omega) (by omega) (fun q => (u38.2 s q (by omega)).trans (i10 q)) (by omega) (EvI.ite i12 (by rw [hX]; exact Option.some_ne_none _) hg ⟨by omega, by omega⟩ v26c (by omega) v33e u38 (by omega) (fun z => Or.inl ⟨by omega, (v37e).symm.trans (congrArg _ (by omega))⟩) (by omega)) (by omega))
                  · refine s_aload_n kx_11_134 rfl ?_
                    refine r_getR (k := f) (f := 0) (k2 := (f + 1)) kx_11_135 kp_11_9 (tkf_0 hT hf) kf_1_0 (by decide) (rqf_0 hI3 hf) ?_
                    refine s_iload_n kx_11_138 rfl ?_
                    refine s_aload_n kx_11_139 rfl ?_
                    refine r_getR (k := f) (f := 1) (k2 := s) kx_11_140 kp_11_15 (tkf_0 hT hf) kf_1_1 (by decide) ((fl3 f 1 (by rcases hf with rfl | rfl | rfl | rfl <;> rfl)).trans hs) ?_
                    refine s_iload_n kx_11_143 rfl ?_
                    refine r_aldK (k := s) kx_11_144 hsA ⟨by omega, by omega⟩ v26e ?_
                    refine s_aload_n kx_11_145 rfl ?_
                    refine r_getR (k := f) (f := 0) (k2 := (f + 1)) kx_11_146 kp_11_9 (tkf_0 hT hf) kf_1_0 (by decide) (rqf_0 hI3 hf) ?_
                    refine s_iload_n kx_11_149 rfl ?_
                    refine r_aldU (k := (f + 1)) kx_11_150 (tkf_1 hT hf) ⟨by omega, by omega⟩ (fun v39 v39e => ?_)
                    refine s_aload_n kx_11_151 rfl ?_
                    refine r_getR (k := f) (f := 0) (k2 := (f + 1)) kx_11_152 kp_11_9 (tkf_0 hT hf) kf_1_0 (by decide) (rqf_0 hI3 hf) ?_
                    refine s_iload_n kx_11_155 rfl ?_
                    refine s_iconst (v := 1) kx_11_156 (by decide) ?_
                    refine r_add kx_11_157 ⟨by omega, by omega⟩ ?_
                    refine r_aldU (k := (f + 1)) kx_11_158 (tkf_1 hT hf) ⟨by omega, by omega⟩ (fun v40 v40e => ?_)
                    have htv := EvI.twov i12 (by rw [hX]; exact Option.some_ne_none _) hg ⟨by omega, by omega⟩ v26c ⟨by omega, by omega⟩ v39e v40e (by omega) (by omega)
                    have ⟨htv1, htv2, htv3⟩ := htv
                    unfold pBd at htv1 htv2
                    refine s_callS2 (s1 := 3) (s2 := 2) (as := [(0, v40), (0, v39), (0, v26)]) (rest := [(0, (x2_1 - v27)), rf (f + 1)]) kx_11_159 kp_11_32 rfl kcl_13 rfl rfl (by decide) (e_13 (d := d) (step := v26) (a := v39) (b := v40) hT hI3 ⟨by omega, by omega⟩ ⟨by omega, by omega⟩ ⟨by omega, by omega⟩ htv3) (kF (fun v41 v41p => ?_))
                    refine r_ast (k := (f + 1)) kx_11_162 (tkf_1 hT hf) ⟨by omega, by omega⟩ hI3 (ruf_1 hf) (fun M42 hI42 u42 => ?_)
                    have hFm42 := hFm3.up u42 (by rcases hf with rfl | rfl | rfl | rfl <;> rfl)
                    have hFl442 := fl3.up u42 (by rcases hf with rfl | rfl | rfl | rfl <;> rfl)
                    refine s_goto (t := 200) kx_11_163 (by decide) ?_
                    refine r_iinc kx_11_200 rfl km_11_2 (by decide) ⟨by omega, by omega⟩ rfl ?_
                    refine r_iinc kx_11_203 rfl km_11_3 (by decide) ⟨by omega, by omega⟩ rfl ?_
                    refine s_goto (t := 4) kx_11_206 (by decide) ?_
                    exact cP.wk (lS1 rfl (lS1 rfl (lS1 rfl (lS1 rfl lS0)))) (ih14 ((x2_1 - v27) + 1) (x3_2 + 1) M42 hI42 hFm42 hFl442 (by omega) (by omega) (by omega) (by omega) (fun q => (u42.2 s q (by omega)).trans (i10 q)) (by omega) (EvI.two i12 (by rw [hX]; exact Option.some_ne_none _) hg ⟨by omega, by omega⟩ v26c ⟨by omega, by omega⟩ v39e v40e u42 (by omega) (by omega) v41p (by omega)) (by omega))
                · refine s_aload_n kx_11_105 rfl ?_
                  refine r_getR (k := f) (f := 0) (k2 := (f + 1)) kx_11_106 kp_11_9 (tkf_0 hT hf) kf_1_0 (by decide) (rqf_0 hI3 hf) ?_
                  refine s_iload_n kx_11_109 rfl ?_
                  refine s_aload_n kx_11_110 rfl ?_
                  refine r_getR (k := f) (f := 0) (k2 := (f + 1)) kx_11_111 kp_11_9 (tkf_0 hT hf) kf_1_0 (by decide) (rqf_0 hI3 hf) ?_
                  refine s_iload_n kx_11_114 rfl ?_
                  refine r_aldU (k := (f + 1)) kx_11_115 (tkf_1 hT hf) ⟨by omega, by omega⟩ (fun v43 v43e => ?_)
                  refine s_if_ne (t := 123) kx_11_116 (by decide) (fun hc44 => ?_) (fun hc44 => ?_)
                  · refine s_iconst (v := 0) kx_11_123 (by decide) ?_
                    refine r_ast (k := (f + 1)) kx_11_124 (tkf_1 hT hf) ⟨by omega, by omega⟩ hI3 (ruf_1 hf) (fun M45 hI45 u45 => ?_)
                    have hFm45 := hFm3.up u45 (by rcases hf with rfl | rfl | rfl | rfl <;> rfl)
                    have hFl445 := fl3.up u45 (by rcases hf with rfl | rfl | rfl | rfl <;> rfl)
                    refine s_goto (t := 200) kx_11_125 (by decide) ?_
                    refine r_iinc kx_11_200 rfl km_11_2 (by decide) ⟨by omega, by omega⟩ rfl ?_
                    refine r_iinc kx_11_203 rfl km_11_3 (by decide) ⟨by omega, by omega⟩ rfl ?_
                    refine s_goto (t := 4) kx_11_206 (by decide) ?_
                    exact cP.wk (lS1 rfl (lS1 rfl (lS1 rfl (lS1 rfl lS0)))) (ih14 ((x2_1 - v27) + 1) (x3_2 + 1) M45 hI45 hFm45 hFl445 (by omega) (by omega) (by omega) (by omega) (fun q => (u45.2 s q (by omega)).trans (i10 q)) (by omega) (EvI.not i12 (by rw [hX]; exact Option.some_ne_none _) hg ⟨by omega, by omega⟩ v26c (by omega) v43e u45 (by omega) (fun z => by omega) (by omega)) (by omega))
                  · refine s_iconst (v := 1) kx_11_119 (by decide) ?_
                    refine s_goto (t := 124) kx_11_120 (by decide) ?_
                    refine r_ast (k := (f + 1)) kx_11_124 (tkf_1 hT hf) ⟨by omega, by omega⟩ hI3 (ruf_1 hf) (fun M46 hI46 u46 => ?_)
                    have hFm46 := hFm3.up u46 (by rcases hf with rfl | rfl | rfl | rfl <;> rfl)
                    have hFl446 := fl3.up u46 (by rcases hf with rfl | rfl | rfl | rfl <;> rfl)
                    refine s_goto (t := 200) kx_11_125 (by decide) ?_
                    refine r_iinc kx_11_200 rfl km_11_2 (by decide) ⟨by omega, by omega⟩ rfl ?_
                    refine r_iinc kx_11_203 rfl km_11_3 (by decide) ⟨by omega, by omega⟩ rfl ?_
                    refine s_goto (t := 4) kx_11_206 (by decide) ?_
                    exact cP.wk (lS1 rfl (lS1 rfl (lS1 rfl (lS1 rfl lS0)))) (ih14 ((x2_1 - v27) + 1) (x3_2 + 1) M46 hI46 hFm46 hFl446 (by omega) (by omega) (by omega) (by omega) (fun q => (u46.2 s q (by omega)).trans (i10 q)) (by omega) (EvI.not i12 (by rw [hX]; exact Option.some_ne_none _) hg ⟨by omega, by omega⟩ v26c (by omega) v43e u46 (by omega) (fun z => by omega) (by omega)) (by omega))
              · refine s_aload_n kx_11_62 rfl ?_
                refine r_getR (k := f) (f := 0) (k2 := (f + 1)) kx_11_63 kp_11_9 (tkf_0 hT hf) kf_1_0 (by decide) (rqf_0 hI3 hf) ?_
                refine s_iload_n kx_11_66 rfl ?_
                refine s_aload_n kx_11_67 rfl ?_
                refine r_getR (k := f) (f := 1) (k2 := s) kx_11_68 kp_11_15 (tkf_0 hT hf) kf_1_1 (by decide) ((fl3 f 1 (by rcases hf with rfl | rfl | rfl | rfl <;> rfl)).trans hs) ?_
                refine s_iload_n kx_11_71 rfl ?_
                refine r_aldK (k := s) kx_11_72 hsA ⟨by omega, by omega⟩ v26e ?_
                refine s_if_lt (t := 85) kx_11_73 (by decide) (fun hc47 => ?_) (fun hc47 => ?_)
                · refine s_aload_n kx_11_85 rfl ?_
                  refine s_iconst (v := (-1)) kx_11_86 (by decide) ?_
                  refine s_aload_n kx_11_87 rfl ?_
                  refine r_getR (k := f) (f := 1) (k2 := s) kx_11_88 kp_11_15 (tkf_0 hT hf) kf_1_1 (by decide) ((fl3 f 1 (by rcases hf with rfl | rfl | rfl | rfl <;> rfl)).trans hs) ?_
                  refine s_iload_n kx_11_91 rfl ?_
                  refine r_aldK (k := s) kx_11_92 hsA ⟨by omega, by omega⟩ v26e ?_
                  refine r_sub kx_11_93 ⟨by omega, by omega⟩ ?_
                  refine r_aldU (k := 43) kx_11_94 (tk_43 hT) ⟨by omega, by omega⟩ (fun v48 v48e => ?_)
                  refine r_ast (k := (f + 1)) kx_11_95 (tkf_1 hT hf) ⟨by omega, by omega⟩ hI3 (ruf_1 hf) (fun M49 hI49 u49 => ?_)
                  have hFm49 := hFm3.up u49 (by rcases hf with rfl | rfl | rfl | rfl <;> rfl)
                  have hFl449 := fl3.up u49 (by rcases hf with rfl | rfl | rfl | rfl <;> rfl)
                  refine s_goto (t := 200) kx_11_96 (by decide) ?_
                  refine r_iinc kx_11_200 rfl km_11_2 (by decide) ⟨by omega, by omega⟩ rfl ?_
                  refine r_iinc kx_11_203 rfl km_11_3 (by decide) ⟨by omega, by omega⟩ rfl ?_
                  refine s_goto (t := 4) kx_11_206 (by decide) ?_
                  exact cP.wk (lS1 rfl (lS1 rfl (lS1 rfl (lS1 rfl lS0)))) (ih14 ((x2_1 - v27) + 1) (x3_2 + 1) M49 hI49 hFm49 hFl449 (by omega) (by omega) (by omega) (by omega) (fun q => (u49.2 s q (by omega)).trans (i10 q)) (by omega) (EvI.giv i12 (by rw [hX]; exact Option.some_ne_none _) hg ⟨by omega, by omega⟩ v26c ⟨by omega, by omega⟩ u49 (by omega) ((((fl3 43 _ rfl)).symm.trans v48e).symm.trans (hgv _ (by omega) (by omega))) (by omega)) (by omega))
                · refine s_aload_n kx_11_76 rfl ?_
                  refine r_getR (k := f) (f := 1) (k2 := s) kx_11_77 kp_11_15 (tkf_0 hT hf) kf_1_1 (by decide) ((fl3 f 1 (by rcases hf with rfl | rfl | rfl | rfl <;> rfl)).trans hs) ?_
                  refine s_iload_n kx_11_80 rfl ?_
                  refine r_aldK (k := s) kx_11_81 hsA ⟨by omega, by omega⟩ v26e ?_
                  refine s_goto (t := 95) kx_11_82 (by decide) ?_
                  refine r_ast (k := (f + 1)) kx_11_95 (tkf_1 hT hf) ⟨by omega, by omega⟩ hI3 (ruf_1 hf) (fun M50 hI50 u50 => ?_)
                  have hFm50 := hFm3.up u50 (by rcases hf with rfl | rfl | rfl | rfl <;> rfl)
                  have hFl450 := fl3.up u50 (by rcases hf with rfl | rfl | rfl | rfl <;> rfl)
                  refine s_goto (t := 200) kx_11_96 (by decide) ?_
                  refine r_iinc kx_11_200 rfl km_11_2 (by decide) ⟨by omega, by omega⟩ rfl ?_
                  refine r_iinc kx_11_203 rfl km_11_3 (by decide) ⟨by omega, by omega⟩ rfl ?_
                  refine s_goto (t := 4) kx_11_206 (by decide) ?_
                  exact cP.wk (lS1 rfl (lS1 rfl (lS1 rfl (lS1 rfl lS0)))) (ih14 ((x2_1 - v27) + 1) (x3_2 + 1) M50 hI50 hFm50 hFl450 (by omega) (by omega) (by omega) (by omega) (fun q => (u50.2 s q (by omega)).trans (i10 q)) (by omega) (EvI.num i12 (by rw [hX]; exact Option.some_ne_none _) hg ⟨by omega, by omega⟩ v26c (by omega) u50 (by omega) (by omega) (by omega)) (by omega))
            · exfalso
              omega
  exact cP.wk (lS1 rfl (lS1 rfl (lS1 rfl (lS1 rfl lS0)))) (key4 _ 0 0 M hI hFm Fr.refl (by omega) (by omega) (by omega) (by omega) (fun _ => rfl) (by omega) (EvI.zero (by decide)) (Nat.lt_succ_self _))
