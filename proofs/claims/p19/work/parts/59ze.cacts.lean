def gC_64_m : List (Nat × Nat) := [(42, 99999)]
theorem g_64 {xs : Nat → Int} {Ln d : Nat} {T : List cK} {M : cM} (hT : TT T) (hI : Rng M) {t : Nat} (ht : t = 8 ∨ t = 25) (h70 : M 7 0 = ((t : Nat) : Int)) {person minutes : Int} {D S : cM} (hC : CR D S t M) (p0 : 0 ≤ person ∧ person ≤ 7) (p1 : 0 ≤ minutes ∧ minutes ≤ 1059) (p2 : person < D 0 1) : cC k_P xs Ln (d + 1) 64 [rf 7, (0, person), (0, minutes)] (T, M) (qV T M gC_64_m (fun M1 => CR D (pSp S person minutes) t M1)) := by
  show cP k_P xs Ln (d + 1) 64 0 [(0, rf 7), (1, (0, person)), (2, (0, minutes))] [] (T, M) _
  have hFm : Fr gC_64_m M M := Fr.refl
  have hD := hC.2.1
  have hDr := hD.rg
  have hSW := hC.2.2.2.2.1
  refine s_aload_n kx_64_0 rfl ?_
  refine r_getR (k := 7) (f := 2) (k2 := 42) kx_64_1 kp_64_21 (tk_7 hT) kf_5_2 (by decide) (rq_7_2 hI) ?_
  refine s_bipush (v := 24) kx_64_4 (by decide) ?_
  refine s_iload_n kx_64_6 rfl ?_
  refine r_add kx_64_7 ⟨by omega, by omega⟩ ?_
  refine s_ldc kx_64_8 kp_64_132 ?_
  refine s_aload_n kx_64_10 rfl ?_
  refine s_iload_n kx_64_11 rfl ?_
  refine s_callV2 (k := 7) (s1 := 2) (s2 := 3) (as := [(0, person)]) (rest := [(0, 99999), (0, (24 + person)), rf 42]) kx_64_12 kp_64_50 (Or.inl rfl) rfl (tk_7 hT) ki_46 kcl_46 rfl rfl (by decide) (g_46 (d := d) (person := person) hT hI ht h70 hC (by omega) (by omega)) (kF (fun v1 v1p => ?_))
  refine s_iload_n kx_64_15 rfl ?_
  refine r_add kx_64_16 ⟨by omega, by omega⟩ ?_
  refine s_callS2 (s1 := 2) (s2 := 2) (as := [(0, (v1 + minutes)), (0, 99999)]) (rest := [(0, (24 + person)), rf 42]) kx_64_17 kp_64_133 rfl kcl_299 rfl rfl (by decide) (m_299 (d := d) (a := 99999) (b := (v1 + minutes)) hT hI) (kF (fun v2 v2p => ?_))
  refine r_ast (k := 42) kx_64_20 (tk_42 hT) ⟨by omega, by omega⟩ hI (ru_42 (fun _ => by omega) (fun _ => by omega)) (fun M3 hI3 u3 => ?_)
  have hFm3 := hFm.up u3 rfl
  have hc4 := (CR.u4 hC u3 ht (p := person) ⟨by omega, by omega⟩ (by omega) ⟨by omega, by omega⟩)
  exact s_vret kx_64_21 kq_64 ⟨_, rfl, rfl, hI3, hFm3, (by unfold pSp; rw [← show v2 = (if S 4 person.toNat + minutes < 99999 then S 4 person.toNat + minutes else 99999) by split <;> omega]; exact hc4)⟩
def gC_65_m : List (Nat × Nat) := [(42, 99999)]
theorem g_65 {xs : Nat → Int} {Ln d : Nat} {T : List cK} {M : cM} (hT : TT T) (hI : Rng M) {t : Nat} (ht : t = 8 ∨ t = 25) (h70 : M 7 0 = ((t : Nat) : Int)) {person room minutes : Int} {D S : cM} (hC : CR D S t M) (p0 : 0 ≤ person ∧ person ≤ 7) (p1 : 0 ≤ room ∧ room ≤ 7) (p2 : 0 ≤ minutes ∧ minutes ≤ 1059) (p3 : person < D 0 1) (p4 : room < D 0 0) : cC k_P xs Ln (d + 2) 65 [rf 7, (0, person), (0, room), (0, minutes)] (T, M) (qV T M gC_65_m (fun M1 => CR D (c_up (pSp S person minutes) 0 person.toNat room) t M1)) := by
  show cP k_P xs Ln (d + 2) 65 0 [(0, rf 7), (1, (0, person)), (2, (0, room)), (3, (0, minutes))] [] (T, M) _
  have hFm : Fr gC_65_m M M := Fr.refl
  have hD := hC.2.1
  have hDr := hD.rg
  have hSW := hC.2.2.2.2.1
  refine s_aload_n kx_65_0 rfl ?_
  refine s_iload_n kx_65_1 rfl ?_
  refine s_iload_n kx_65_2 rfl ?_
  refine s_callV2 (k := 7) (s1 := 3) (s2 := 0) (as := [(0, minutes), (0, person)]) (rest := []) kx_65_3 kp_65_136 (Or.inl rfl) rfl (tk_7 hT) ki_64 kcl_64 rfl rfl (by decide) (g_64 (d := d) (person := person) (minutes := minutes) hT hI ht h70 hC (by omega) (by omega) (by omega)) (kV (fun M2 hI2 fr2 v1p => ?_))
  have hFm2 := hFm.call fr2 rfl
  have hc3 := v1p
  refine s_aload_n kx_65_6 rfl ?_
  refine r_getR (k := 7) (f := 2) (k2 := 42) kx_65_7 kp_65_21 (tk_7 hT) kf_5_2 (by decide) (rq_7_2 hI2) ?_
  refine s_iconst (v := 0) kx_65_10 (by decide) ?_
  refine s_iload_n kx_65_11 rfl ?_
  refine r_add kx_65_12 ⟨by omega, by omega⟩ ?_
  refine s_iload_n kx_65_13 rfl ?_
  refine r_ast (k := 42) kx_65_14 (tk_42 hT) ⟨by omega, by omega⟩ hI2 (ru_42 (fun _ => by omega) (fun _ => by omega)) (fun M4 hI4 u4 => ?_)
  have hFm4 := hFm2.up u4 rfl
  have hc5 := (CR.u0 hc3 u4 ht (p := person) ⟨by omega, by omega⟩ (by omega) ⟨by omega, by omega⟩)
  exact s_vret kx_65_15 kq_65 ⟨_, rfl, rfl, hI4, hFm4, hc5⟩
theorem g_48 {xs : Nat → Int} {Ln d : Nat} {T : List cK} {M : cM} (hT : TT T) (hI : Rng M) {t : Nat} (ht : t = 8 ∨ t = 25) (h70 : M 7 0 = ((t : Nat) : Int)) {D S : cM} (hC : CR D S t M) : cC k_P xs Ln (d + 0) 48 [rf 7] (T, M) (qF T M 0 (fun v => 0 ≤ v ∧ v ≤ 40 ∧ (v = S 5 0))) := by
  show cP k_P xs Ln (d + 0) 48 0 [(0, rf 7)] [] (T, M) _
  have hD := hC.2.1
  have hDr := hD.rg
  have hSW := hC.2.2.2.2.1
  refine s_aload_n kx_48_0 rfl ?_
  refine r_getR (k := 7) (f := 2) (k2 := 42) kx_48_1 kp_48_21 (tk_7 hT) kf_5_2 (by decide) (rq_7_2 hI) ?_
  refine s_bipush (v := 40) kx_48_4 (by decide) ?_
  refine r_ald (k := 42) kx_48_6 (tk_42 hT) ⟨by decide, by decide⟩ (rgA40 hI) (fun v1 v1e v1a v1b => ?_)
  exact s_iret kx_48_7 (Or.inl kq_48) ⟨_, rfl, rfl, ⟨by omega, by omega, v1e.symm.trans hC.k.1⟩⟩
def gC_66_m : List (Nat × Nat) := [(42, 99999)]
theorem g_66 {xs : Nat → Int} {Ln d : Nat} {T : List cK} {M : cM} (hT : TT T) (hI : Rng M) {t : Nat} (ht : t = 8 ∨ t = 25) (h70 : M 7 0 = ((t : Nat) : Int)) {person room chair minutes : Int} {D S : cM} (hC : CR D S t M) (p0 : 0 ≤ person ∧ person ≤ 7) (p1 : 0 ≤ room ∧ room ≤ 7) (p2 : 0 ≤ chair ∧ chair ≤ 7) (p3 : 0 ≤ minutes ∧ minutes ≤ 1059) (p4 : chair < D 0 1) (p5 : room < D 0 0) : cC k_P xs Ln (d + 1) 66 [rf 7, (0, person), (0, room), (0, chair), (0, minutes)] (T, M) (qV T M gC_66_m (fun M1 => CR D (pKp (c_up S 1 chair.toNat room) (((((((minutes * 8) + room) * 8) + person) * 8) + chair))) t M1)) := by
  show cP k_P xs Ln (d + 1) 66 0 [(0, rf 7), (1, (0, person)), (2, (0, room)), (3, (0, chair)), (4, (0, minutes))] [] (T, M) _
  have hFm : Fr gC_66_m M M := Fr.refl
  have hD := hC.2.1
  have hDr := hD.rg
  have hSW := hC.2.2.2.2.1
  refine s_aload_n kx_66_0 rfl ?_
  refine r_getR (k := 7) (f := 2) (k2 := 42) kx_66_1 kp_66_21 (tk_7 hT) kf_5_2 (by decide) (rq_7_2 hI) ?_
  refine s_bipush (v := 8) kx_66_4 (by decide) ?_
  refine s_iload_n kx_66_6 rfl ?_
  refine r_add kx_66_7 ⟨by omega, by omega⟩ ?_
  refine s_iload_n kx_66_8 rfl ?_
  refine r_ast (k := 42) kx_66_9 (tk_42 hT) ⟨by omega, by omega⟩ hI (ru_42 (fun _ => by omega) (fun _ => by omega)) (fun M1 hI1 u1 => ?_)
  have hFm1 := hFm.up u1 rfl
  refine s_aload_n kx_66_10 rfl ?_
  refine s_callV2 (k := 7) (s1 := 1) (s2 := 0) (as := []) (rest := []) kx_66_11 kp_66_140 (Or.inl rfl) rfl (tk_7 hT) ki_48 kcl_48 rfl rfl (by decide) (g_48 (d := d) hT hI1 ht ((u1.2 7 0 (by omega)).trans h70) (CR.u1 hC u1 ht (p := chair) ⟨by omega, by omega⟩ (by omega) ⟨by omega, by omega⟩)) (kF (fun v2 v2p => ?_))
  have v2k : v2 = S 5 0 := v2p.2.2
  refine s_istore kx_66_14 km_66_5 rfl ?_
  refine s_iload kx_66_16 rfl ?_
  refine s_bipush (v := 40) kx_66_18 (by decide) ?_
  refine s_icmp_lt (t := 44) kx_66_20 (by decide) (fun hc3 => ?_) (fun hc3 => ?_)
  · refine s_aload_n kx_66_44 rfl ?_
    refine r_getR (k := 7) (f := 2) (k2 := 42) kx_66_45 kp_66_21 (tk_7 hT) kf_5_2 (by decide) (rq_7_2 hI1) ?_
    refine s_bipush (v := 41) kx_66_48 (by decide) ?_
    refine s_iload kx_66_50 rfl ?_
    refine r_add kx_66_52 ⟨by omega, by omega⟩ ?_
    refine s_iload kx_66_53 rfl ?_
    refine s_bipush (v := 8) kx_66_55 (by decide) ?_
    refine r_mul kx_66_57 ⟨by omega, by omega⟩ ?_
    refine s_iload_n kx_66_58 rfl ?_
    refine r_add kx_66_59 ⟨by omega, by omega⟩ ?_
    refine s_bipush (v := 8) kx_66_60 (by decide) ?_
    refine r_mul kx_66_62 ⟨by omega, by omega⟩ ?_
    refine s_iload_n kx_66_63 rfl ?_
    refine r_add kx_66_64 ⟨by omega, by omega⟩ ?_
    refine s_bipush (v := 8) kx_66_65 (by decide) ?_
    refine r_mul kx_66_67 ⟨by omega, by omega⟩ ?_
    refine s_iload_n kx_66_68 rfl ?_
    refine r_add kx_66_69 ⟨by omega, by omega⟩ ?_
    refine r_ast (k := 42) kx_66_70 (tk_42 hT) ⟨by omega, by omega⟩ hI1 (ru_42 (fun _ => by omega) (fun _ => by omega)) (fun M4 hI4 u4 => ?_)
    have hFm4 := hFm1.up u4 rfl
    refine s_aload_n kx_66_71 rfl ?_
    refine r_getR (k := 7) (f := 2) (k2 := 42) kx_66_72 kp_66_21 (tk_7 hT) kf_5_2 (by decide) (rq_7_2 hI4) ?_
    refine s_bipush (v := 40) kx_66_75 (by decide) ?_
    refine s_iload kx_66_77 rfl ?_
    refine s_iconst (v := 1) kx_66_79 (by decide) ?_
    refine r_add kx_66_80 ⟨by omega, by omega⟩ ?_
    refine r_ast (k := 42) kx_66_81 (tk_42 hT) ⟨by decide, by decide⟩ hI4 (ru_42 (fun _ => by omega) (fun _ => by omega)) (fun M5 hI5 u5 => ?_)
    have hFm5 := hFm4.up u5 rfl
    exact s_vret kx_66_82 kq_66 ⟨_, rfl, rfl, hI5, hFm5, (CR.kp (c := chair) hC ht ⟨by omega, by omega⟩ ⟨by omega, by omega⟩ ⟨by omega, by omega⟩ (fun a b hab => ((u5.2 a b (by omega)).trans ((u4.2 a b (by omega)).trans ((u1.2 a b (by omega)).trans (rfl))))) ((congrArg (M5 42) (by omega)).trans (((u5.2 42 _ (by omega)).trans ((u4.2 42 _ (by omega)).trans (rfl))).trans u1.1)) (by rw [if_pos (by omega)]; exact u5.1.trans (by omega)) (fun _ => ⟨((congrArg (M5 42) (by omega)).trans ((u5.2 42 _ (by omega)).trans u4.1)), fun k hk => ((u5.2 42 _ (by omega)).trans ((u4.2 42 _ (by omega)).trans ((u1.2 42 _ (by omega)).trans (rfl))))⟩) (fun z => absurd z (by omega)))⟩
  · refine s_aload_n kx_66_23 rfl ?_
    refine r_getR (k := 7) (f := 2) (k2 := 42) kx_66_24 kp_66_21 (tk_7 hT) kf_5_2 (by decide) (rq_7_2 hI1) ?_
    refine s_bipush (v := 42) kx_66_27 (by decide) ?_
    refine s_aload_n kx_66_29 rfl ?_
    refine r_getR (k := 7) (f := 2) (k2 := 42) kx_66_30 kp_66_21 (tk_7 hT) kf_5_2 (by decide) (rq_7_2 hI1) ?_
    refine s_bipush (v := 41) kx_66_33 (by decide) ?_
    refine s_bipush (v := 39) kx_66_35 (by decide) ?_
    refine r_cpy (ks := 42) (kd := 42) kx_66_37 kp_66_144 (tk_42 hT) (tk_42 hT) ⟨by omega, by omega, by omega, by omega, by omega⟩ (by decide) hI1 (fun q a b => ru_42 (fun h => absurd h (by omega)) (fun h => absurd h (by omega))) (fun M6 hI6 ca7 cb8 => ?_)
    have fr6 : Fr [(42, 99999)] M1 M6 := Fr.cell (fun x y h => cb8 x y (fun g => h g.1))
    have hFm6 := hFm1.call fr6 rfl
    refine s_bipush (v := 39) kx_66_40 (by decide) ?_
    refine s_istore kx_66_42 km_66_5 rfl ?_
    refine s_aload_n kx_66_44 rfl ?_
    refine r_getR (k := 7) (f := 2) (k2 := 42) kx_66_45 kp_66_21 (tk_7 hT) kf_5_2 (by decide) (rq_7_2 hI6) ?_
    refine s_bipush (v := 41) kx_66_48 (by decide) ?_
    refine s_iload kx_66_50 rfl ?_
    refine s_iadd (z := 80) kx_66_52 (by decide) ?_
    refine s_iload kx_66_53 rfl ?_
    refine s_bipush (v := 8) kx_66_55 (by decide) ?_
    refine r_mul kx_66_57 ⟨by omega, by omega⟩ ?_
    refine s_iload_n kx_66_58 rfl ?_
    refine r_add kx_66_59 ⟨by omega, by omega⟩ ?_
    refine s_bipush (v := 8) kx_66_60 (by decide) ?_
    refine r_mul kx_66_62 ⟨by omega, by omega⟩ ?_
    refine s_iload_n kx_66_63 rfl ?_
    refine r_add kx_66_64 ⟨by omega, by omega⟩ ?_
    refine s_bipush (v := 8) kx_66_65 (by decide) ?_
    refine r_mul kx_66_67 ⟨by omega, by omega⟩ ?_
    refine s_iload_n kx_66_68 rfl ?_
    refine r_add kx_66_69 ⟨by omega, by omega⟩ ?_
    refine r_ast (k := 42) kx_66_70 (tk_42 hT) ⟨by decide, by decide⟩ hI6 (ru_42 (fun _ => by omega) (fun _ => by omega)) (fun M9 hI9 u9 => ?_)
    have hFm9 := hFm6.up u9 rfl
    refine s_aload_n kx_66_71 rfl ?_
    refine r_getR (k := 7) (f := 2) (k2 := 42) kx_66_72 kp_66_21 (tk_7 hT) kf_5_2 (by decide) (rq_7_2 hI9) ?_
    refine s_bipush (v := 40) kx_66_75 (by decide) ?_
    refine s_iload kx_66_77 rfl ?_
    refine s_iconst (v := 1) kx_66_79 (by decide) ?_
    refine s_iadd (z := 40) kx_66_80 (by decide) ?_
    refine r_ast (k := 42) kx_66_81 (tk_42 hT) ⟨by decide, by decide⟩ hI9 (ru_42 (fun _ => by omega) (fun _ => by omega)) (fun M10 hI10 u10 => ?_)
    have hFm10 := hFm9.up u10 rfl
    exact s_vret kx_66_82 kq_66 ⟨_, rfl, rfl, hI10, hFm10, (CR.kp (c := chair) hC ht ⟨by omega, by omega⟩ ⟨by omega, by omega⟩ ⟨by omega, by omega⟩ (fun a b hab => ((u10.2 a b (by omega)).trans ((u9.2 a b (by omega)).trans ((cb8 a b (by omega)).trans ((u1.2 a b (by omega)).trans (rfl)))))) ((congrArg (M10 42) (by omega)).trans (((u10.2 42 _ (by omega)).trans ((u9.2 42 _ (by omega)).trans ((cb8 42 _ (by omega)).trans (rfl)))).trans u1.1)) (by rw [if_neg (by omega)]; exact u10.1.trans (by omega)) (fun z => absurd z (by omega)) (fun _ => ⟨((congrArg (M10 42) (by omega)).trans ((u10.2 42 _ (by omega)).trans u9.1)), fun k hk => ((u10.2 42 _ (by omega)).trans ((u9.2 42 _ (by omega)).trans (rfl))).trans ((ca7 (41 + k) (by omega) (by omega)).trans (((u1.2 42 _ (by omega)).trans (rfl)).trans (congrArg (M 42) (by omega))))⟩))⟩
def gC_68_m : List (Nat × Nat) := [(42, 99999)]
theorem g_68 {xs : Nat → Int} {Ln d : Nat} {T : List cK} {M : cM} (hT : TT T) (hI : Rng M) {t : Nat} (ht : t = 8 ∨ t = 25) (h70 : M 7 0 = ((t : Nat) : Int)) {chair : Int} {D S : cM} (hC : CR D S t M) (p0 : 0 ≤ chair ∧ chair ≤ 7) (p1 : chair < D 0 1) : cC k_P xs Ln (d + 0) 68 [rf 7, (0, chair)] (T, M) (qV T M gC_68_m (fun M1 => CR D (c_up S 2 chair.toNat 1) t M1)) := by
  show cP k_P xs Ln (d + 0) 68 0 [(0, rf 7), (1, (0, chair))] [] (T, M) _
  have hFm : Fr gC_68_m M M := Fr.refl
  have hD := hC.2.1
  have hDr := hD.rg
  have hSW := hC.2.2.2.2.1
  refine s_aload_n kx_68_0 rfl ?_
  refine r_getR (k := 7) (f := 2) (k2 := 42) kx_68_1 kp_68_21 (tk_7 hT) kf_5_2 (by decide) (rq_7_2 hI) ?_
  refine s_bipush (v := 16) kx_68_4 (by decide) ?_
  refine s_iload_n kx_68_6 rfl ?_
  refine r_add kx_68_7 ⟨by omega, by omega⟩ ?_
  refine s_iconst (v := 1) kx_68_8 (by decide) ?_
  refine r_ast (k := 42) kx_68_9 (tk_42 hT) ⟨by omega, by omega⟩ hI (ru_42 (fun _ => by omega) (fun _ => by omega)) (fun M1 hI1 u1 => ?_)
  have hFm1 := hFm.up u1 rfl
  have hc2 := (CR.u2 hC u1 ht (p := chair) ⟨by omega, by omega⟩ (by omega) (by omega))
  exact s_vret kx_68_10 kq_68 ⟨_, rfl, rfl, hI1, hFm1, hc2⟩
def gC_71_m : List (Nat × Nat) := [(42, 99999)]
theorem g_71 {xs : Nat → Int} {Ln d : Nat} {T : List cK} {M : cM} (hT : TT T) (hI : Rng M) {t : Nat} (ht : t = 8 ∨ t = 25) (h70 : M 7 0 = ((t : Nat) : Int)) {person chair : Int} {D S : cM} (hC : CR D S t M) (p0 : 0 ≤ person ∧ person ≤ 7) (p1 : 0 ≤ chair ∧ chair ≤ 7) (p2 : person < D 0 1) (p3 : chair < D 0 1) : cC k_P xs Ln (d + 2) 71 [rf 7, (0, person), (0, chair)] (T, M) (qV T M gC_71_m (fun M1 => CR D (pSp (c_up S 2 chair.toNat 0) person 30) t M1)) := by
  show cP k_P xs Ln (d + 2) 71 0 [(0, rf 7), (1, (0, person)), (2, (0, chair))] [] (T, M) _
  have hFm : Fr gC_71_m M M := Fr.refl
  have hD := hC.2.1
  have hDr := hD.rg
  have hSW := hC.2.2.2.2.1
  refine s_aload_n kx_71_0 rfl ?_
  refine r_getR (k := 7) (f := 2) (k2 := 42) kx_71_1 kp_71_21 (tk_7 hT) kf_5_2 (by decide) (rq_7_2 hI) ?_
  refine s_bipush (v := 16) kx_71_4 (by decide) ?_
  refine s_iload_n kx_71_6 rfl ?_
  refine r_add kx_71_7 ⟨by omega, by omega⟩ ?_
  refine s_iconst (v := 0) kx_71_8 (by decide) ?_
  refine r_ast (k := 42) kx_71_9 (tk_42 hT) ⟨by omega, by omega⟩ hI (ru_42 (fun _ => by omega) (fun _ => by omega)) (fun M1 hI1 u1 => ?_)
  have hFm1 := hFm.up u1 rfl
  have hc2 := (CR.u2 hC u1 ht (p := chair) ⟨by omega, by omega⟩ (by omega) (by omega))
  refine s_aload_n kx_71_10 rfl ?_
  refine s_iload_n kx_71_11 rfl ?_
  refine s_bipush (v := 30) kx_71_12 (by decide) ?_
  refine s_callV2 (k := 7) (s1 := 3) (s2 := 0) (as := [(0, 30), (0, person)]) (rest := []) kx_71_14 kp_71_136 (Or.inl rfl) rfl (tk_7 hT) ki_64 kcl_64 rfl rfl (by decide) (g_64 (d := d) (person := person) (minutes := 30) hT hI1 ht ((u1.2 7 0 (by omega)).trans h70) hc2 (by omega) (by omega) (by omega)) (kV (fun M4 hI4 fr4 v3p => ?_))
  have hFm4 := hFm1.call fr4 rfl
  have hc5 := v3p
  exact s_vret kx_71_17 kq_71 ⟨_, rfl, rfl, hI4, hFm4, hc5⟩
def gC_69_m : List (Nat × Nat) := [(20, 99999), (23, 99999), (37, 99999), (40, 99999), (42, 99999), (43, 99999)]
theorem g_69 {xs : Nat → Int} {Ln d : Nat} {T : List cK} {M : cM} (hT : TT T) (hI : Rng M) {t : Nat} (ht : t = 8 ∨ t = 25) (h70 : M 7 0 = ((t : Nat) : Int)) (hN : Fm T M) {person minutes : Int} {D S : cM} (hC : CR D S t M) (p0 : 0 ≤ person ∧ person ≤ 7) (p1 : 0 ≤ minutes ∧ minutes ≤ 999) (p2 : person < D 0 1) : cC k_P xs Ln (d + 4) 69 [rf 7, (0, person), (0, minutes)] (T, M) (qV T M gC_69_m (fun M1 => CR D (pSp S person minutes) t M1)) := by
  show cP k_P xs Ln (d + 4) 69 0 [(0, rf 7), (1, (0, person)), (2, (0, minutes))] [] (T, M) _
  have hFm : Fr gC_69_m M M := Fr.refl
  have hD := hC.2.1
  have hDr := hD.rg
  have hSW := hC.2.2.2.2.1
  refine s_aload_n kx_69_0 rfl ?_
  refine s_iload_n kx_69_1 rfl ?_
  refine s_iload_n kx_69_2 rfl ?_
  refine s_callV2 (k := 7) (s1 := 3) (s2 := 0) (as := [(0, minutes), (0, person)]) (rest := []) kx_69_3 kp_69_136 (Or.inl rfl) rfl (tk_7 hT) ki_64 kcl_64 rfl rfl (by decide) (g_64 (d := d + 2) (person := person) (minutes := minutes) hT hI ht h70 hC (by omega) (by omega) (by omega)) (kV (fun M2 hI2 fr2 v1p => ?_))
  have hFm2 := hFm.call fr2 rfl
  have hc3 := v1p
  refine s_aload_n kx_69_6 rfl ?_
  refine s_iload_n kx_69_7 rfl ?_
  refine s_callV2 (k := 7) (s1 := 2) (s2 := 0) (as := [(0, person)]) (rest := []) kx_69_8 kp_69_43 (Or.inl rfl) rfl (tk_7 hT) ki_58 kcl_58 rfl rfl (by decide) (g_58 (d := d + 1) (person := person) hT hI2 ht ((fr2 7 0 rfl).trans h70) hc3 (by omega) (by omega)) (kF (fun v4 v4p => ?_))
  refine s_if_eq (t := 15) kx_69_11 (by decide) (fun hc5 => ?_) (fun hc5 => ?_)
  · replace v4p := v4p.resolve_left (by omega)
    refine s_aload_n kx_69_15 rfl ?_
    refine s_iload_n kx_69_16 rfl ?_
    refine s_iload_n kx_69_17 rfl ?_
    refine s_iload_n kx_69_18 rfl ?_
    refine s_callV2 (k := 7) (s1 := 4) (s2 := 0) (as := [(0, minutes), (0, person), (0, person)]) (rest := []) kx_69_19 kp_69_118 (Or.inl rfl) rfl (tk_7 hT) ki_63 kcl_63 rfl rfl (by decide) (g_63 (d := d + 2) (person := person) (chair := person) (minutes := minutes) hT hI2 ht ((fr2 7 0 rfl).trans h70) hc3 (by omega) (by omega) (by omega) (by omega)) (kV (fun M7 hI7 fr7 v6p => ?_))
    have hFm7 := hFm2.call fr7 rfl
    have hc8 := v6p.1
    refine s_aload_n kx_69_22 rfl ?_
    refine r_getR (k := 7) (f := 0) (k2 := t) kx_69_23 kp_69_14 (tk_7 hT) kf_5_0 (by decide) ((fr7 7 0 rfl).trans ((fr2 7 0 rfl).trans h70)) ?_
    refine r_getR (k := t) (f := 15) (k2 := (t + 14)) kx_69_26 kp_69_150 (tkt_0 hT ht) kf_9_15 (by decide) (rqt_15 hI7 ht) ?_
    refine r_getI (k := (t + 14)) (f := 2) kx_69_29 kp_69_115 (tkf_0 hT (fF_stands ht)) kf_1_2 (fun _ => rfl) (rgf_0_2 hI7 (fF_stands ht)) (fun v9 v9e v9a v9b => ?_)
    have v9z : M (t + 14) 2 = v9 := (((fr7 (t + 14) 2 (by rcases ht with rfl | rfl <;> rfl)).trans (fr2 (t + 14) 2 (by rcases ht with rfl | rfl <;> rfl)))).symm.trans v9e
    refine s_if_ne (t := 39) kx_69_32 (by decide) (fun hc10 => ?_) (fun hc10 => ?_)
    · refine s_aload_n kx_69_39 rfl ?_
      refine r_getR (k := 7) (f := 0) (k2 := t) kx_69_40 kp_69_14 (tk_7 hT) kf_5_0 (by decide) ((fr7 7 0 rfl).trans ((fr2 7 0 rfl).trans h70)) ?_
      refine r_getR (k := t) (f := 15) (k2 := (t + 14)) kx_69_43 kp_69_150 (tkt_0 hT ht) kf_9_15 (by decide) (rqt_15 hI7 ht) ?_
      refine s_aload_n kx_69_46 rfl ?_
      refine r_getR (k := 7) (f := 3) (k2 := 43) kx_69_47 kp_69_27 (tk_7 hT) kf_5_3 (by decide) (rq_7_3 hI7) ?_
      refine s_callV2 (k := (t + 14)) (s1 := 2) (s2 := 0) (as := [rf 43]) (rest := []) kx_69_50 kp_69_122 (Or.inl rfl) rfl (tkf_0 hT (fF_stands ht)) ki_11 kcl_11 rfl rfl (by decide) (m_11 (d := d) hT hI7 (fF_stands ht) (hN.fr hFm7 rfl)) (kW (fun v11 M12 hI12 fr12 v11p => ?_))
      have hFm12 := hFm7.call fr12 rfl
      have hc13 := (CR.fr hc8 fr12 ht rfl)
      refine s_istore_n kx_69_53 km_69_3 rfl ?_
      refine s_aload_n kx_69_54 rfl ?_
      refine r_getR (k := 7) (f := 2) (k2 := 42) kx_69_55 kp_69_21 (tk_7 hT) kf_5_2 (by decide) (rq_7_2 hI12) ?_
      refine s_bipush (v := 32) kx_69_58 (by decide) ?_
      refine s_iload_n kx_69_60 rfl ?_
      refine r_add kx_69_61 ⟨by omega, by omega⟩ ?_
      refine s_ldc kx_69_62 kp_69_132 ?_
      refine s_aload_n kx_69_64 rfl ?_
      refine s_iload_n kx_69_65 rfl ?_
      refine s_callV2 (k := 7) (s1 := 2) (s2 := 3) (as := [(0, person)]) (rest := [(0, 99999), (0, (32 + person)), rf 42]) kx_69_66 kp_69_60 (Or.inl rfl) rfl (tk_7 hT) ki_47 kcl_47 rfl rfl (by decide) (m_47 (d := d + 3) (person := person) hT hI12 (by omega)) (kF (fun v14 v14p => ?_))
      refine s_iload_n kx_69_69 rfl ?_
      refine r_iaddR kx_69_70 (fun v15 v15a v15b => ?_)
      refine s_callS2 (s1 := 2) (s2 := 2) (as := [(0, v15), (0, 99999)]) (rest := [(0, (32 + person)), rf 42]) kx_69_71 kp_69_133 rfl kcl_299 rfl rfl (by decide) (m_299 (d := d + 3) (a := 99999) (b := v15) hT hI12) (kF (fun v16 v16p => ?_))
      refine r_ast (k := 42) kx_69_74 (tk_42 hT) ⟨by omega, by omega⟩ hI12 (ru_42 (fun _ => by omega) (fun _ => by omega)) (fun M17 hI17 u17 => ?_)
      have hFm17 := hFm12.up u17 rfl
      have hc18 := (CR.u24 hc13 u17 ht (by omega))
      exact s_vret kx_69_75 kq_69 ⟨_, rfl, rfl, hI17, hFm17, hc18⟩
    · refine s_iload_n kx_69_35 rfl ?_
      refine s_goto (t := 53) kx_69_36 (by decide) ?_
      refine s_istore_n kx_69_53 km_69_3 rfl ?_
      refine s_aload_n kx_69_54 rfl ?_
      refine r_getR (k := 7) (f := 2) (k2 := 42) kx_69_55 kp_69_21 (tk_7 hT) kf_5_2 (by decide) (rq_7_2 hI7) ?_
      refine s_bipush (v := 32) kx_69_58 (by decide) ?_
      refine s_iload_n kx_69_60 rfl ?_
      refine r_add kx_69_61 ⟨by omega, by omega⟩ ?_
      refine s_ldc kx_69_62 kp_69_132 ?_
      refine s_aload_n kx_69_64 rfl ?_
      refine s_iload_n kx_69_65 rfl ?_
      refine s_callV2 (k := 7) (s1 := 2) (s2 := 3) (as := [(0, person)]) (rest := [(0, 99999), (0, (32 + person)), rf 42]) kx_69_66 kp_69_60 (Or.inl rfl) rfl (tk_7 hT) ki_47 kcl_47 rfl rfl (by decide) (m_47 (d := d + 3) (person := person) hT hI7 (by omega)) (kF (fun v19 v19p => ?_))
      refine s_iload_n kx_69_69 rfl ?_
      refine r_iaddR kx_69_70 (fun v20 v20a v20b => ?_)
      refine s_callS2 (s1 := 2) (s2 := 2) (as := [(0, v20), (0, 99999)]) (rest := [(0, (32 + person)), rf 42]) kx_69_71 kp_69_133 rfl kcl_299 rfl rfl (by decide) (m_299 (d := d + 3) (a := 99999) (b := v20) hT hI7) (kF (fun v21 v21p => ?_))
      refine r_ast (k := 42) kx_69_74 (tk_42 hT) ⟨by omega, by omega⟩ hI7 (ru_42 (fun _ => by omega) (fun _ => by omega)) (fun M22 hI22 u22 => ?_)
      have hFm22 := hFm7.up u22 rfl
      have hc23 := (CR.u24 hc8 u22 ht (by omega))
      exact s_vret kx_69_75 kq_69 ⟨_, rfl, rfl, hI22, hFm22, hc23⟩
  · replace v4p := v4p.resolve_right (by omega)
    exact s_vret kx_69_14 kq_69 ⟨_, rfl, rfl, hI2, hFm2, hc3⟩
def gC_168_m : List (Nat × Nat) := [(0, 12)]
theorem g_168 {xs : Nat → Int} {Ln d : Nat} {T : List cK} {M : cM} (hT : TT T) (hI : Rng M) {t : Nat} (ht : t = 8 ∨ t = 25) (h70 : M 7 0 = ((t : Nat) : Int)) {many : Int} {D S : cM} (hC : CR D S t M) (p0 : many ≤ 2147483647) : cC k_P xs Ln (d + 0) 168 [rf 0, (0, many)] (T, M) (qW T M gC_168_m 0 (fun v M1 => CR D (pSd S) t M1 ∧ v = (if 0 < many then pDr S many else 0))) := by
  show cP k_P xs Ln (d + 0) 168 0 [(0, rf 0), (1, (0, many))] [] (T, M) _
  have hFm : Fr gC_168_m M M := Fr.refl
  have hD := hC.2.1
  have hDr := hD.rg
  have hSW := hC.2.2.2.2.1
  refine s_aload_n kx_168_0 rfl ?_
  refine s_ldc2_w kx_168_1 kp_168_323 ?_
  refine s_aload_n kx_168_4 rfl ?_
  refine r_getI (k := 0) (f := 12) kx_168_5 kp_168_75 (tk_0 hT) kf_11_12 (fun _ => rfl) (rg_0_12 hI) (fun v1 v1e v1a v1b => ?_)
  refine s_i2l kx_168_8 ?_
  refine r_lmulE kx_168_9 ⟨by omega, by omega⟩ ?_
  refine s_ldc2_w kx_168_10 kp_168_325 ?_
  refine r_laddE kx_168_13 ⟨by omega, by omega⟩ ?_
  refine s_ldc2_w kx_168_14 kp_168_327 ?_
  refine s_land (z := (lnd ((1103515245 * v1) + 12345) 2147483647)) kx_168_17 rfl ?_
  have hln : (lnd ((1103515245 * v1) + 12345) 2147483647) = pNx (S 3 0) := by rw [lnd_eq (by omega) (by omega)]; unfold pNx; rw [show S 3 0 = v1 from hC.2.2.2.1.symm.trans v1e]
  have hnr := pNx_r (S 3 0)
  refine r_l2iE kx_168_18 (by omega) (by omega) ?_
  refine r_put (k := 0) (f := 12) kx_168_19 kp_168_75 (tk_0 hT) kf_11_12 rfl (by decide) (by decide) hI (ru_0_12 (by omega) (by omega)) (fun M5 hI5 u5 => ?_)
  have hFm5 := hFm.up u5 rfl
  have hc6 : CR D (pSd S) t M5 := by have h9 := (CR.u3 hC u5 ht); rw [hln] at h9; exact h9
  refine s_iload_n kx_168_22 rfl ?_
  refine s_if_le (t := 38) kx_168_23 (by decide) (fun hc7 => ?_) (fun hc7 => ?_)
  · refine s_iconst (v := 0) kx_168_38 (by decide) ?_
    exact s_iret kx_168_39 (Or.inl kq_168) ⟨_, _, rfl, rfl, hI5, hFm5, ⟨hc6, (if_neg (by omega)).symm⟩⟩
  · refine s_aload_n kx_168_26 rfl ?_
    refine r_getK (k := 0) (f := 12) kx_168_27 kp_168_75 (tk_0 hT) kf_11_12 (fun _ => rfl) u5.1 ?_
    refine s_bipush (v := 64) kx_168_30 (by decide) ?_
    refine r_idiv kx_168_32 (by omega) (by omega) (by omega) (by omega) ?_
    refine s_iload_n kx_168_33 rfl ?_
    refine r_irem kx_168_34 (by omega) (by omega) (by omega) (by omega) ?_
    refine s_goto (t := 39) kx_168_35 (by decide) ?_
    exact s_iret kx_168_39 (Or.inl kq_168) ⟨_, _, rfl, rfl, hI5, hFm5, ⟨hc6, by rw [if_pos (by omega)]; unfold pDr; rw [← hln]⟩⟩
def gC_169_m : List (Nat × Nat) := [(0, 12), (42, 99999)]
theorem g_169 {xs : Nat → Int} {Ln d : Nat} {T : List cK} {M : cM} (hT : TT T) (hI : Rng M) {t : Nat} (ht : t = 8 ∨ t = 25) (h70 : M 7 0 = ((t : Nat) : Int)) {person room chair minutes : Int} {D S : cM} (hC : CR D S t M) (p0 : 0 ≤ person ∧ person ≤ 7) (p1 : 0 ≤ room ∧ room ≤ 7) (p2 : (-1) ≤ chair ∧ chair ≤ 7) (p3 : 0 ≤ minutes ∧ minutes ≤ 1059) (p4 : person < D 0 1) (p5 : room < D 0 0) (p6 : chair < D 0 1) : cC k_P xs Ln (d + 3) 169 [rf 0, (0, person), (0, room), (0, chair), (0, minutes)] (T, M) (qV T M gC_169_m (fun M1 => CR D (pMw D (pSp S person minutes) person room chair minutes) t M1)) := by
  show cP k_P xs Ln (d + 3) 169 0 [(0, rf 0), (1, (0, person)), (2, (0, room)), (3, (0, chair)), (4, (0, minutes))] [] (T, M) _
  have hFm : Fr gC_169_m M M := Fr.refl
  have hD := hC.2.1
  have hDr := hD.rg
  have hSW := hC.2.2.2.2.1
  refine s_aload_n kx_169_0 rfl ?_
  refine r_getR (k := 0) (f := 2) (k2 := 7) kx_169_1 kp_169_26 (tk_0 hT) kf_11_2 (by decide) (rq_0_2 hI) ?_
  refine s_iload_n kx_169_4 rfl ?_
  refine s_iload_n kx_169_5 rfl ?_
  refine s_iload kx_169_6 rfl ?_
  refine s_callV2 (k := 7) (s1 := 4) (s2 := 0) (as := [(0, minutes), (0, room), (0, person)]) (rest := []) kx_169_8 kp_169_329 (Or.inl rfl) rfl (tk_7 hT) ki_65 kcl_65 rfl rfl (by decide) (g_65 (d := d) (person := person) (room := room) (minutes := minutes) hT hI ht h70 hC (by omega) (by omega) (by omega) (by omega) (by omega)) (kV (fun M2 hI2 fr2 v1p => ?_))
  have hFm2 := hFm.call fr2 rfl
  have hc3 := v1p
  refine s_iload_n kx_169_11 rfl ?_
  refine s_iconst (v := (-1)) kx_169_12 (by decide) ?_
  refine s_icmp_ne (t := 17) kx_169_13 (by decide) (fun hc4 => ?_) (fun hc4 => ?_)
  · refine s_aload_n kx_169_17 rfl ?_
    refine r_getR (k := 0) (f := 2) (k2 := 7) kx_169_18 kp_169_26 (tk_0 hT) kf_11_2 (by decide) (rq_0_2 hI2) ?_
    refine s_iload_n kx_169_21 rfl ?_
    refine s_iload_n kx_169_22 rfl ?_
    refine s_iload_n kx_169_23 rfl ?_
    refine s_iload kx_169_24 rfl ?_
    refine s_callV2 (k := 7) (s1 := 5) (s2 := 0) (as := [(0, minutes), (0, chair), (0, room), (0, person)]) (rest := []) kx_169_26 kp_169_332 (Or.inl rfl) rfl (tk_7 hT) ki_66 kcl_66 rfl rfl (by decide) (g_66 (d := d + 1) (person := person) (room := room) (chair := chair) (minutes := minutes) hT hI2 ht ((fr2 7 0 rfl).trans h70) hc3 (by omega) (by omega) (by omega) (by omega) (by omega) (by omega)) (kV (fun M6 hI6 fr6 v5p => ?_))
    have hFm6 := hFm2.call fr6 rfl
    have hc7 := v5p
    refine s_aload_n kx_169_29 rfl ?_
    refine r_getR (k := 0) (f := 2) (k2 := 7) kx_169_30 kp_169_26 (tk_0 hT) kf_11_2 (by decide) (rq_0_2 hI6) ?_
    refine r_getR (k := 7) (f := 0) (k2 := t) kx_169_33 kp_169_120 (tk_7 hT) kf_5_0 (by decide) ((fr6 7 0 rfl).trans ((fr2 7 0 rfl).trans h70)) ?_
    refine r_getU (k := t) (f := 2) kx_169_36 kp_169_131 (tkt_0 hT ht) kf_9_2 (fun _ => rfl) (fun v8 v8e => ?_)
    have v8d : D 0 2 = v8 := ((hc7).1 0 2 (by decide)).symm.trans v8e
    have v8z : M t 2 = v8 := (((fr6 t 2 (by rcases ht with rfl | rfl <;> rfl)).trans (fr2 t 2 (by rcases ht with rfl | rfl <;> rfl)))).symm.trans v8e
    refine s_if_le (t := 69) kx_169_39 (by decide) (fun hc9 => ?_) (fun hc9 => ?_)
    · exact s_vret kx_169_69 kq_169 ⟨_, rfl, rfl, hI6, hFm6, (by unfold pMw; rw [if_neg (by omega), if_neg (by omega)]; exact hc7)⟩
    · refine s_aload_n kx_169_42 rfl ?_
      refine s_bipush (v := 100) kx_169_43 (by decide) ?_
      refine s_callV2 (k := 0) (s1 := 2) (s2 := 0) (as := [(0, 100)]) (rest := []) kx_169_45 kp_169_335 (Or.inl rfl) rfl (tk_0 hT) ki_168 kcl_168 rfl rfl (by decide) (g_168 (d := d + 2) (many := 100) hT hI6 ht ((fr6 7 0 rfl).trans ((fr2 7 0 rfl).trans h70)) hc7 (by omega)) (kW (fun v10 M11 hI11 fr11 v10p => ?_))
      have hFm11 := hFm6.call fr11 rfl
      have hc12 := v10p.1
      refine s_aload_n kx_169_48 rfl ?_
      refine r_getR (k := 0) (f := 2) (k2 := 7) kx_169_49 kp_169_26 (tk_0 hT) kf_11_2 (by decide) (rq_0_2 hI11) ?_
      refine r_getR (k := 7) (f := 0) (k2 := t) kx_169_52 kp_169_120 (tk_7 hT) kf_5_0 (by decide) ((fr11 7 0 rfl).trans ((fr6 7 0 rfl).trans ((fr2 7 0 rfl).trans h70))) ?_
      refine r_getK (k := t) (f := 2) kx_169_55 kp_169_131 (tkt_0 hT ht) kf_9_2 (fun _ => rfl) ((fr11 t 2 (by rcases ht with rfl | rfl <;> rfl)).trans v8e) ?_
      refine s_icmp_ge (t := 69) kx_169_58 (by decide) (fun hc13 => ?_) (fun hc13 => ?_)
      · exact s_vret kx_169_69 kq_169 ⟨_, rfl, rfl, hI11, hFm11, (by unfold pMw; rw [if_neg (by omega), if_pos (by omega), if_neg (by have h9 := v10p.2; rw [if_pos (by decide)] at h9; unfold pM1; omega)]; exact hc12)⟩
      · refine s_aload_n kx_169_61 rfl ?_
        refine r_getR (k := 0) (f := 2) (k2 := 7) kx_169_62 kp_169_26 (tk_0 hT) kf_11_2 (by decide) (rq_0_2 hI11) ?_
        refine s_iload_n kx_169_65 rfl ?_
        refine s_callV2 (k := 7) (s1 := 2) (s2 := 0) (as := [(0, chair)]) (rest := []) kx_169_66 kp_169_338 (Or.inl rfl) rfl (tk_7 hT) ki_68 kcl_68 rfl rfl (by decide) (g_68 (d := d + 2) (chair := chair) hT hI11 ht ((fr11 7 0 rfl).trans ((fr6 7 0 rfl).trans ((fr2 7 0 rfl).trans h70))) hc12 (by omega) (by omega)) (kV (fun M15 hI15 fr15 v14p => ?_))
        have hFm15 := hFm11.call fr15 rfl
        have hc16 := v14p
        exact s_vret kx_169_69 kq_169 ⟨_, rfl, rfl, hI15, hFm15, (by unfold pMw; rw [if_neg (by omega), if_pos (by omega), if_pos (by have h9 := v10p.2; rw [if_pos (by decide)] at h9; unfold pM1; omega)]; exact hc16)⟩
  · exact s_vret kx_169_16 kq_169 ⟨_, rfl, rfl, hI2, hFm2, (by unfold pMw; rw [if_pos (by omega)]; exact hc3)⟩
def gC_170_m : List (Nat × Nat) := [(0, 12), (20, 99999), (23, 99999), (37, 99999), (40, 99999), (42, 99999), (43, 99999)]
theorem g_170 {xs : Nat → Int} {Ln d : Nat} {T : List cK} {M : cM} (hT : TT T) (hI : Rng M) {t : Nat} (ht : t = 8 ∨ t = 25) (h70 : M 7 0 = ((t : Nat) : Int)) (hN : Fm T M) {person : Int} {D S : cM} (hC : CR D S t M) (hG : Gm T M) (p0 : 0 ≤ person ∧ person ≤ 7) (p1 : person < D 0 1) : cC k_P xs Ln (d + 6) 170 [rf 0, (0, person)] (T, M) (qW T M gC_170_m 0 (fun v M1 => 0 ≤ v ∧ v ≤ 1 ∧ (v = pDyB D S person ∧ CR D (pDay D S person) t M1))) := by
  show cP k_P xs Ln (d + 6) 170 0 [(0, rf 0), (1, (0, person))] [] (T, M) _
  have hFm : Fr gC_170_m M M := Fr.refl
  have hD := hC.2.1
  have hDr := hD.rg
  have hSW := hC.2.2.2.2.1
  refine s_aload_n kx_170_0 rfl ?_
  refine s_iconst (v := 3) kx_170_1 (by decide) ?_
  refine s_callV2 (k := 0) (s1 := 2) (s2 := 0) (as := [(0, 3)]) (rest := []) kx_170_2 kp_170_335 (Or.inl rfl) rfl (tk_0 hT) ki_168 kcl_168 rfl rfl (by decide) (g_168 (d := d + 5) (many := 3) hT hI ht h70 hC (by omega)) (kW (fun v1 M2 hI2 fr2 v1p => ?_))
  have hFm2 := hFm.call fr2 rfl
  have v1q : v1 = pDr S 3 := v1p.2.trans (if_pos (by decide))
  have hc3 := v1p.1
  refine s_istore_n kx_170_5 km_170_2 rfl ?_
  refine s_iload_n kx_170_6 rfl ?_
  refine s_iconst (v := 2) kx_170_7 (by decide) ?_
  refine s_icmp_ne (t := 21) kx_170_8 (by decide) (fun hc4 => ?_) (fun hc4 => ?_)
  · refine s_aload_n kx_170_21 rfl ?_
    refine r_getR (k := 0) (f := 2) (k2 := 7) kx_170_22 kp_170_26 (tk_0 hT) kf_11_2 (by decide) (rq_0_2 hI2) ?_
    refine s_iload_n kx_170_25 rfl ?_
    refine s_callV2 (k := 7) (s1 := 2) (s2 := 0) (as := [(0, person)]) (rest := []) kx_170_26 kp_170_191 (Or.inl rfl) rfl (tk_7 hT) ki_43 kcl_43 rfl rfl (by decide) (g_43 (d := d + 5) (person := person) hT hI2 ht ((fr2 7 0 rfl).trans h70) hc3 (by omega) (by omega)) (kF (fun v5 v5p => ?_))
    have v5q : v5 = S 0 person.toNat := v5p.2.2.1
    refine s_istore_n kx_170_29 km_170_3 rfl ?_
    refine s_aload_n kx_170_30 rfl ?_
    refine r_getR (k := 0) (f := 2) (k2 := 7) kx_170_31 kp_170_26 (tk_0 hT) kf_11_2 (by decide) (rq_0_2 hI2) ?_
    refine r_getR (k := 7) (f := 0) (k2 := t) kx_170_34 kp_170_120 (tk_7 hT) kf_5_0 (by decide) ((fr2 7 0 rfl).trans h70) ?_
    refine s_iload_n kx_170_37 rfl ?_
    refine s_callV2 (k := t) (s1 := 2) (s2 := 0) (as := [(0, v5)]) (rest := []) kx_170_38 kp_170_341 (Or.inl rfl) rfl (tkt_0 hT ht) ki_118 kcl_118 rfl rfl (by decide) (g_118 (d := d + 3) (a := v5) hT hI2 ht ((fr2 7 0 rfl).trans h70) hc3) (kF (fun v6 v6p => ?_))
    have v6q : v6 = pMn D S person := by have h9 := v6p.2.2; rw [v5q] at h9; exact h9
    refine s_istore kx_170_41 km_170_4 rfl ?_
    refine s_iload_n kx_170_43 rfl ?_
    refine s_iconst (v := 1) kx_170_44 (by decide) ?_
    refine s_icmp_ne (t := 53) kx_170_45 (by decide) (fun hc7 => ?_) (fun hc7 => ?_)
    · refine s_iconst (v := 0) kx_170_53 (by decide) ?_
      exact s_iret kx_170_54 (Or.inl kq_170) ⟨_, _, rfl, rfl, hI2, hFm2, ⟨by omega, by omega, by unfold pDyB; exact (if_neg (by omega)).symm, by unfold pDay; rw [if_neg (by omega), if_neg (by omega)]; exact hc3⟩⟩
    · refine s_iload kx_170_48 rfl ?_
      refine s_if_ne (t := 55) kx_170_50 (by decide) (fun hc8 => ?_) (fun hc8 => ?_)
      · refine s_aload_n kx_170_55 rfl ?_
        refine r_getR (k := 0) (f := 2) (k2 := 7) kx_170_56 kp_170_26 (tk_0 hT) kf_11_2 (by decide) (rq_0_2 hI2) ?_
        refine r_getR (k := 7) (f := 0) (k2 := t) kx_170_59 kp_170_120 (tk_7 hT) kf_5_0 (by decide) ((fr2 7 0 rfl).trans h70) ?_
        refine s_iload_n kx_170_62 rfl ?_
        refine s_aload_n kx_170_63 rfl ?_
        refine s_iload kx_170_64 rfl ?_
        refine s_callV2 (k := 0) (s1 := 2) (s2 := 2) (as := [(0, v6)]) (rest := [(0, v5), rf t]) kx_170_66 kp_170_335 (Or.inl rfl) rfl (tk_0 hT) ki_168 kcl_168 rfl rfl (by decide) (g_168 (d := d + 5) (many := v6) hT hI2 ht ((fr2 7 0 rfl).trans h70) hc3 (by omega)) (kW (fun v9 M10 hI10 fr10 v9p => ?_))
        have hFm10 := hFm2.call fr10 rfl
        have v9q : v9 = pDr (pSd S) v6 := v9p.2.trans (if_pos (by omega))
        have v9r := pDr_r (S := pSd S) (m := v6) (by omega)
        have hc11 := v9p.1
        refine s_callV2 (k := t) (s1 := 3) (s2 := 0) (as := [(0, v9), (0, v5)]) (rest := []) kx_170_69 kp_170_344 (Or.inl rfl) rfl (tkt_0 hT ht) ki_119 kcl_119 rfl rfl (by decide) (g_119 (d := d + 3) (a := v5) (which := v9) hT hI10 ht ((fr10 7 0 rfl).trans ((fr2 7 0 rfl).trans h70)) hc11 (by omega) (by have h9 := v6p.2.2; omega)) (kF (fun v12 v12p => ?_))
        have v12q : v12 = pTo D S person := by have h9 := v12p.2.2.1; rw [v5q, v9q, v6q] at h9; exact h9
        refine s_istore kx_170_72 km_170_5 rfl ?_
        refine s_aload_n kx_170_74 rfl ?_
        refine r_getR (k := 0) (f := 2) (k2 := 7) kx_170_75 kp_170_26 (tk_0 hT) kf_11_2 (by decide) (rq_0_2 hI10) ?_
        refine s_iload_n kx_170_78 rfl ?_
        refine s_iload kx_170_79 rfl ?_
        refine s_iload_n kx_170_81 rfl ?_
        refine s_callV2 (k := 7) (s1 := 4) (s2 := 0) (as := [(0, person), (0, v12), (0, person)]) (rest := []) kx_170_82 kp_170_347 (Or.inl rfl) rfl (tk_7 hT) ki_60 kcl_60 rfl rfl (by decide) (g_60 (d := d + 2) (person := person) (to := v12) (chair := person) hT hI10 ht ((fr10 7 0 rfl).trans ((fr2 7 0 rfl).trans h70)) hc11 (by omega) (by omega)) (kF (fun v13 v13p => ?_))
        refine s_if_eq (t := 92) kx_170_85 (by decide) (fun hc14 => ?_) (fun hc14 => ?_)
        · replace v13p := v13p.resolve_left (by omega)
          refine s_iconst (v := (-1)) kx_170_92 (by decide) ?_
          refine s_istore kx_170_93 km_170_6 rfl ?_
          refine s_aload_n kx_170_95 rfl ?_
          refine s_iload_n kx_170_96 rfl ?_
          refine s_iload kx_170_97 rfl ?_
          refine s_iload kx_170_99 rfl ?_
          refine s_aload_n kx_170_101 rfl ?_
          refine r_getR (k := 0) (f := 2) (k2 := 7) kx_170_102 kp_170_26 (tk_0 hT) kf_11_2 (by decide) (rq_0_2 hI10) ?_
          refine s_iload_n kx_170_105 rfl ?_
          refine s_iload kx_170_106 rfl ?_
          refine s_iload kx_170_108 rfl ?_
          refine s_callV2 (k := 7) (s1 := 4) (s2 := 4) (as := [(0, (-1)), (0, v12), (0, person)]) (rest := [(0, (-1)), (0, v12), (0, person), rf 0]) kx_170_110 kp_170_228 (Or.inl rfl) rfl (tk_7 hT) ki_61 kcl_61 rfl rfl (by decide) (g_61 (d := d) (person := person) (to := v12) (chair := (-1)) hT hI10 ht ((fr10 7 0 rfl).trans ((fr2 7 0 rfl).trans h70)) hc11 (Gm.fr (Gm.fr hG fr2 rfl) fr10 rfl)) (kW (fun v15 M16 hI16 fr16 v15p => ?_))
          have hFm16 := hFm10.call fr16 rfl
          have v15w : 0 < pWy D ((pSd (pSd S)) 0 person.toNat) v12 := by have h9 := v12p.2.2.2.2; rw [v5q] at h9; exact h9
          have v15g : pCg D (pSd (pSd S)) person v12 (-1) = 1 := by unfold pCg; exact if_pos (by omega)
          have hc17 := (CR.fr hc11 fr16 ht rfl)
          refine s_callV2 (k := 0) (s1 := 5) (s2 := 0) (as := [(0, v15), (0, (-1)), (0, v12), (0, person)]) (rest := []) kx_170_113 kp_170_239 (Or.inl rfl) rfl (tk_0 hT) ki_169 kcl_169 rfl rfl (by decide) (g_169 (d := d + 2) (person := person) (room := v12) (chair := (-1)) (minutes := v15) hT hI16 ht ((fr16 7 0 rfl).trans ((fr10 7 0 rfl).trans ((fr2 7 0 rfl).trans h70))) hc17 (by omega) (by omega) (by omega) (by omega) (by omega) (by omega) (by omega)) (kV (fun M19 hI19 fr19 v18p => ?_))
          have hFm19 := hFm16.call fr19 rfl
          have hc20 : CR D (pMv D (pSd (pSd S)) person v12 (-1)) t M19 := by have h9 := v18p; rw [show v15 = pMi D (pSd (pSd S)) person v12 (-1) by omega] at h9; exact h9
          have hc21 := v18p
          refine s_iload kx_170_116 rfl ?_
          refine s_iconst (v := (-1)) kx_170_118 (by decide) ?_
          refine s_icmp_ne (t := 126) kx_170_119 (by decide) (fun hc22 => absurd hc22 (by decide)) (fun hc22 => ?_)
          refine s_iconst (v := 0) kx_170_122 (by decide) ?_
          refine s_goto (t := 127) kx_170_123 (by decide) ?_
          exact s_iret kx_170_127 (Or.inl kq_170) ⟨_, _, rfl, rfl, hI19, hFm19, ⟨by omega, by omega, by unfold pDyB; rw [← v12q]; exact (if_neg (by omega)).symm, by unfold pDay; rw [if_pos (by omega), ← v12q]; unfold pGc; rw [if_neg (by omega)]; exact hc20⟩⟩
        · replace v13p := v13p.resolve_right (by omega)
          refine s_iload_n kx_170_88 rfl ?_
          refine s_goto (t := 93) kx_170_89 (by decide) ?_
          refine s_istore kx_170_93 km_170_6 rfl ?_
          refine s_aload_n kx_170_95 rfl ?_
          refine s_iload_n kx_170_96 rfl ?_
          refine s_iload kx_170_97 rfl ?_
          refine s_iload kx_170_99 rfl ?_
          refine s_aload_n kx_170_101 rfl ?_
          refine r_getR (k := 0) (f := 2) (k2 := 7) kx_170_102 kp_170_26 (tk_0 hT) kf_11_2 (by decide) (rq_0_2 hI10) ?_
          refine s_iload_n kx_170_105 rfl ?_
          refine s_iload kx_170_106 rfl ?_
          refine s_iload kx_170_108 rfl ?_
          refine s_callV2 (k := 7) (s1 := 4) (s2 := 4) (as := [(0, person), (0, v12), (0, person)]) (rest := [(0, person), (0, v12), (0, person), rf 0]) kx_170_110 kp_170_228 (Or.inl rfl) rfl (tk_7 hT) ki_61 kcl_61 rfl rfl (by decide) (g_61 (d := d) (person := person) (to := v12) (chair := person) hT hI10 ht ((fr10 7 0 rfl).trans ((fr2 7 0 rfl).trans h70)) hc11 (Gm.fr (Gm.fr hG fr2 rfl) fr10 rfl)) (kW (fun v23 M24 hI24 fr24 v23p => ?_))
          have hFm24 := hFm10.call fr24 rfl
          have v23w : 0 < pWy D ((pSd (pSd S)) 0 person.toNat) v12 := by have h9 := v12p.2.2.2.2; rw [v5q] at h9; exact h9
          have v23g : pCg D (pSd (pSd S)) person v12 person = 1 := by unfold pCg; exact if_pos (by omega)
          have hc25 := (CR.fr hc11 fr24 ht rfl)
          refine s_callV2 (k := 0) (s1 := 5) (s2 := 0) (as := [(0, v23), (0, person), (0, v12), (0, person)]) (rest := []) kx_170_113 kp_170_239 (Or.inl rfl) rfl (tk_0 hT) ki_169 kcl_169 rfl rfl (by decide) (g_169 (d := d + 2) (person := person) (room := v12) (chair := person) (minutes := v23) hT hI24 ht ((fr24 7 0 rfl).trans ((fr10 7 0 rfl).trans ((fr2 7 0 rfl).trans h70))) hc25 (by omega) (by omega) (by omega) (by omega) (by omega) (by omega) (by omega)) (kV (fun M27 hI27 fr27 v26p => ?_))
          have hFm27 := hFm24.call fr27 rfl
          have hc28 : CR D (pMv D (pSd (pSd S)) person v12 person) t M27 := by have h9 := v26p; rw [show v23 = pMi D (pSd (pSd S)) person v12 person by omega] at h9; exact h9
          have hc29 := v26p
          refine s_iload kx_170_116 rfl ?_
          refine s_iconst (v := (-1)) kx_170_118 (by decide) ?_
          refine s_icmp_ne (t := 126) kx_170_119 (by decide) (fun hc30 => ?_) (fun hc30 => absurd hc30 (by omega))
          refine s_iconst (v := 1) kx_170_126 (by decide) ?_
          exact s_iret kx_170_127 (Or.inl kq_170) ⟨_, _, rfl, rfl, hI27, hFm27, ⟨by omega, by omega, by unfold pDyB; rw [← v12q]; exact (if_pos (by omega)).symm, by unfold pDay; rw [if_pos (by omega), ← v12q]; unfold pGc; rw [if_pos (by omega)]; exact hc28⟩⟩
      · refine s_iconst (v := 0) kx_170_53 (by decide) ?_
        exact s_iret kx_170_54 (Or.inl kq_170) ⟨_, _, rfl, rfl, hI2, hFm2, ⟨by omega, by omega, by unfold pDyB; exact (if_neg (by omega)).symm, by unfold pDay; rw [if_neg (by omega), if_neg (by omega)]; exact hc3⟩⟩
  · refine s_aload_n kx_170_11 rfl ?_
    refine r_getR (k := 0) (f := 2) (k2 := 7) kx_170_12 kp_170_26 (tk_0 hT) kf_11_2 (by decide) (rq_0_2 hI2) ?_
    refine s_iload_n kx_170_15 rfl ?_
    refine s_bipush (v := 10) kx_170_16 (by decide) ?_
    refine s_callV2 (k := 7) (s1 := 3) (s2 := 0) (as := [(0, 10), (0, person)]) (rest := []) kx_170_18 kp_170_243 (Or.inl rfl) rfl (tk_7 hT) ki_69 kcl_69 rfl rfl (by decide) (g_69 (d := d + 1) (person := person) (minutes := 10) hT hI2 ht ((fr2 7 0 rfl).trans h70) (hN.fr hFm2 rfl) hc3 (by omega) (by omega) (by omega)) (kV (fun M32 hI32 fr32 v31p => ?_))
    have hFm32 := hFm2.call fr32 rfl
    have hc33 := v31p
    refine s_aload_n kx_170_21 rfl ?_
    refine r_getR (k := 0) (f := 2) (k2 := 7) kx_170_22 kp_170_26 (tk_0 hT) kf_11_2 (by decide) (rq_0_2 hI32) ?_
    refine s_iload_n kx_170_25 rfl ?_
    refine s_callV2 (k := 7) (s1 := 2) (s2 := 0) (as := [(0, person)]) (rest := []) kx_170_26 kp_170_191 (Or.inl rfl) rfl (tk_7 hT) ki_43 kcl_43 rfl rfl (by decide) (g_43 (d := d + 5) (person := person) hT hI32 ht ((fr32 7 0 rfl).trans ((fr2 7 0 rfl).trans h70)) hc33 (by omega) (by omega)) (kF (fun v34 v34p => ?_))
    have v34q : v34 = S 0 person.toNat := v34p.2.2.1
    refine s_istore_n kx_170_29 km_170_3 rfl ?_
    refine s_aload_n kx_170_30 rfl ?_
    refine r_getR (k := 0) (f := 2) (k2 := 7) kx_170_31 kp_170_26 (tk_0 hT) kf_11_2 (by decide) (rq_0_2 hI32) ?_
    refine r_getR (k := 7) (f := 0) (k2 := t) kx_170_34 kp_170_120 (tk_7 hT) kf_5_0 (by decide) ((fr32 7 0 rfl).trans ((fr2 7 0 rfl).trans h70)) ?_
    refine s_iload_n kx_170_37 rfl ?_
    refine s_callV2 (k := t) (s1 := 2) (s2 := 0) (as := [(0, v34)]) (rest := []) kx_170_38 kp_170_341 (Or.inl rfl) rfl (tkt_0 hT ht) ki_118 kcl_118 rfl rfl (by decide) (g_118 (d := d + 3) (a := v34) hT hI32 ht ((fr32 7 0 rfl).trans ((fr2 7 0 rfl).trans h70)) hc33) (kF (fun v35 v35p => ?_))
    have v35q : v35 = pMn D S person := by have h9 := v35p.2.2; rw [v34q] at h9; exact h9
    refine s_istore kx_170_41 km_170_4 rfl ?_
    refine s_iload_n kx_170_43 rfl ?_
    refine s_iconst (v := 1) kx_170_44 (by decide) ?_
    refine s_icmp_ne (t := 53) kx_170_45 (by decide) (fun hc36 => ?_) (fun hc36 => absurd hc36 (by omega))
    refine s_iconst (v := 0) kx_170_53 (by decide) ?_
    exact s_iret kx_170_54 (Or.inl kq_170) ⟨_, _, rfl, rfl, hI32, hFm32, ⟨by omega, by omega, by unfold pDyB; exact (if_neg (by omega)).symm, by unfold pDay; rw [if_neg (by omega), if_pos (by omega)]; exact hc33⟩⟩
def gC_16_m : List (Nat × Nat) := [(44, 1), (44, 2), (45, 99999)]
theorem g_16 {xs : Nat → Int} {Ln d : Nat} {T : List cK} {M : cM} (hT : TT T) (hI : Rng M) {t : Nat} (ht : t = 8 ∨ t = 25) (h70 : M 7 0 = ((t : Nat) : Int)) {D S : cM} (hC : CR D S t M) {H : Nat → cM} {hc : Int} (hH : CH D H hc M) : cC k_P xs Ln (d + 1) 16 [rf 44, rf 42] (T, M) (qV T M gC_16_m (fun M1 => CR D S t M1 ∧ CH D (pPh S H) (pC1 hc) M1)) := by
  show cP k_P xs Ln (d + 1) 16 0 [(0, rf 44), (1, rf 42)] [] (T, M) _
  have hFm : Fr gC_16_m M M := Fr.refl
  have hD := hC.2.1
  have hDr := hD.rg
  have hSW := hC.2.2.2.2.1
  have hHc := hH.1
  refine s_aload_n kx_16_0 rfl ?_
  refine s_aload_n kx_16_1 rfl ?_
  refine r_getI (k := 44) (f := 1) kx_16_2 kp_16_17 (tk_44 hT) kf_2_1 (fun _ => rfl) (rg_44_1 hI) (fun v1 v1e v1a v1b => ?_)
  refine s_iconst (v := 1) kx_16_5 (by decide) ?_
  refine r_add kx_16_6 ⟨by omega, by omega⟩ ?_
  refine s_bipush (v := 20) kx_16_7 (by decide) ?_
  refine r_irem kx_16_9 (by omega) (by omega) (by omega) (by omega) ?_
  refine r_put (k := 44) (f := 1) kx_16_10 kp_16_17 (tk_44 hT) kf_2_1 rfl (by decide) (by decide) hI (ru_44_1 (by omega) (by omega)) (fun M2 hI2 u2 => ?_)
  have hFm2 := hFm.up u2 rfl
  have hc3 := (CR.up hC u2 ht (by omega))
  refine s_aload_n kx_16_13 rfl ?_
  refine s_iconst (v := 0) kx_16_14 (by decide) ?_
  refine s_aload_n kx_16_15 rfl ?_
  refine r_getR (k := 44) (f := 0) (k2 := 45) kx_16_16 kp_16_11 (tk_44 hT) kf_2_0 (by decide) (rq_44_0 hI2) ?_
  refine s_aload_n kx_16_19 rfl ?_
  refine r_getK (k := 44) (f := 1) kx_16_20 kp_16_17 (tk_44 hT) kf_2_1 (fun _ => rfl) u2.1 ?_
  refine s_bipush (v := 81) kx_16_23 (by decide) ?_
  refine r_mul kx_16_25 ⟨by omega, by omega⟩ ?_
  refine s_bipush (v := 81) kx_16_26 (by decide) ?_
  refine r_cpy (ks := 42) (kd := 45) kx_16_28 kp_16_24 (tk_42 hT) (tk_45 hT) ⟨by omega, by omega, by omega, by omega, by omega⟩ (by decide) hI2 (fun q a b => ruH hI2 (by omega)) (fun M4 hI4 ca5 cb6 => ?_)
  have fr4 : Fr [(45, 99999)] M2 M4 := Fr.cell (fun x y h => cb6 x y (fun g => h g.1))
  have hFm4 := hFm2.call fr4 rfl
  refine s_aload_n kx_16_31 rfl ?_
  refine s_bipush (v := 20) kx_16_32 (by decide) ?_
  refine s_aload_n kx_16_34 rfl ?_
  refine r_getU (k := 44) (f := 2) kx_16_35 kp_16_21 (tk_44 hT) kf_2_2 (fun _ => rfl) (fun v7 v7e => ?_)
  have v7z : M 44 2 = v7 := (((fr4 44 2 rfl).trans (u2.2 44 2 (by omega)))).symm.trans v7e
  refine s_iconst (v := 1) kx_16_38 (by decide) ?_
  refine r_add kx_16_39 ⟨by omega, by omega⟩ ?_
  refine s_callS2 (s1 := 2) (s2 := 1) (as := [(0, (v7 + 1)), (0, 20)]) (rest := [rf 44]) kx_16_40 kp_16_30 rfl kcl_299 rfl rfl (by decide) (m_299 (d := d) (a := 20) (b := (v7 + 1)) hT hI4) (kF (fun v8 v8p => ?_))
  have hc9 := (CR.fr hc3 fr4 ht rfl)
  refine r_put (k := 44) (f := 2) kx_16_43 kp_16_21 (tk_44 hT) kf_2_2 rfl (by decide) (by decide) hI4 ru_44_2 (fun M10 hI10 u10 => ?_)
  have hFm10 := hFm4.up u10 rfl
  have hc11 := (CR.up hc9 u10 ht (by omega))
  exact s_vret kx_16_46 kq_16 ⟨_, rfl, rfl, hI10, hFm10, ⟨hc11, CH.push hH hSW hC.2.2.1 hC.k hD.1 (rg_44_1 hI) (n := ((v1 + 1) % 20)) (by rw [v1e]) ((u10.2 44 1 (by omega)).trans ((fr4 44 1 rfl).trans u2.1)) (u10.1.trans (by unfold pC1; split <;> omega)) (fun q hq => (u10.2 45 _ (by omega)).trans ((ca5 (81 * (((v1 + 1) % 20)).toNat + q) (by omega) (by omega)).trans ((u2.2 42 _ (by omega)).trans (congrArg (M 42) (by omega))))) (fun f hf => (u10.2 45 _ (by omega)).trans ((cb6 45 f (by omega)).trans (u2.2 45 _ (by omega))))⟩⟩
def gC_17_m : List (Nat × Nat) := [(42, 99999), (44, 1), (44, 2)]
theorem g_17 {xs : Nat → Int} {Ln d : Nat} {T : List cK} {M : cM} (hT : TT T) (hI : Rng M) {t : Nat} (ht : t = 8 ∨ t = 25) (h70 : M 7 0 = ((t : Nat) : Int)) {D S : cM} (hC : CR D S t M) {H : Nat → cM} {hc : Int} (hH : CH D H hc M) (p0 : 0 < hc) : cC k_P xs Ln (d + 1) 17 [rf 44, rf 42] (T, M) (qV T M gC_17_m (fun M1 => CR D (pUn S (H 0)) t M1 ∧ CH D (fun k => H (k + 1)) (hc - 1) M1)) := by
  show cP k_P xs Ln (d + 1) 17 0 [(0, rf 44), (1, rf 42)] [] (T, M) _
  have hFm : Fr gC_17_m M M := Fr.refl
  have hD := hC.2.1
  have hDr := hD.rg
  have hSW := hC.2.2.2.2.1
  have hHc := hH.1
  have hrr := rg_44_1 hI
  refine s_aload_n kx_17_0 rfl ?_
  refine r_getR (k := 44) (f := 0) (k2 := 45) kx_17_1 kp_17_11 (tk_44 hT) kf_2_0 (by decide) (rq_44_0 hI) ?_
  refine s_aload_n kx_17_4 rfl ?_
  refine r_getI (k := 44) (f := 1) kx_17_5 kp_17_17 (tk_44 hT) kf_2_1 (fun _ => rfl) (rg_44_1 hI) (fun v1 v1e v1a v1b => ?_)
  refine s_bipush (v := 81) kx_17_8 (by decide) ?_
  refine r_mul kx_17_10 ⟨by omega, by omega⟩ ?_
  refine s_aload_n kx_17_11 rfl ?_
  refine s_iconst (v := 0) kx_17_12 (by decide) ?_
  refine s_bipush (v := 81) kx_17_13 (by decide) ?_
  refine r_cpy (ks := 45) (kd := 42) kx_17_15 kp_17_24 (tk_45 hT) (tk_42 hT) ⟨by omega, by omega, by omega, by omega, by omega⟩ (by decide) hI (fun q a b => ruB hI (by omega)) (fun M2 hI2 ca3 cb4 => ?_)
  have fr2 : Fr [(42, 99999)] M M2 := Fr.cell (fun x y h => cb4 x y (fun g => h g.1))
  have hFm2 := hFm.call fr2 rfl
  refine s_aload_n kx_17_18 rfl ?_
  refine s_aload_n kx_17_19 rfl ?_
  refine r_getK (k := 44) (f := 1) kx_17_20 kp_17_17 (tk_44 hT) kf_2_1 (fun _ => rfl) ((fr2 44 1 rfl).trans v1e) ?_
  refine s_bipush (v := 20) kx_17_23 (by decide) ?_
  refine r_add kx_17_25 ⟨by omega, by omega⟩ ?_
  refine s_iconst (v := 1) kx_17_26 (by decide) ?_
  refine r_sub kx_17_27 ⟨by omega, by omega⟩ ?_
  refine s_bipush (v := 20) kx_17_28 (by decide) ?_
  refine r_irem kx_17_30 (by omega) (by omega) (by omega) (by omega) ?_
  refine r_put (k := 44) (f := 1) kx_17_31 kp_17_17 (tk_44 hT) kf_2_1 rfl (by decide) (by decide) hI2 (ru_44_1 (by omega) (by omega)) (fun M5 hI5 u5 => ?_)
  have hFm5 := hFm2.up u5 rfl
  refine s_aload_n kx_17_34 rfl ?_
  refine s_iconst (v := 0) kx_17_35 (by decide) ?_
  refine s_aload_n kx_17_36 rfl ?_
  refine r_getU (k := 44) (f := 2) kx_17_37 kp_17_21 (tk_44 hT) kf_2_2 (fun _ => rfl) (fun v6 v6e => ?_)
  have v6z : M 44 2 = v6 := (((u5.2 44 2 (by omega)).trans (fr2 44 2 rfl))).symm.trans v6e
  refine s_iconst (v := 1) kx_17_40 (by decide) ?_
  refine r_sub kx_17_41 ⟨by omega, by omega⟩ ?_
  refine s_callS2 (s1 := 2) (s2 := 1) (as := [(0, (v6 - 1)), (0, 0)]) (rest := [rf 44]) kx_17_42 kp_17_36 rfl kcl_297 rfl rfl (by decide) (m_297 (d := d) (a := 0) (b := (v6 - 1)) hT hI5) (kF (fun v7 v7p => ?_))
  refine r_put (k := 44) (f := 2) kx_17_45 kp_17_21 (tk_44 hT) kf_2_2 rfl (by decide) (by decide) hI5 ru_44_2 (fun M8 hI8 u8 => ?_)
  have hFm8 := hFm5.up u8 rfl
  exact s_vret kx_17_48 kq_17 ⟨_, rfl, rfl, hI8, hFm8, ⟨CR.pop hC hH ht (by omega) (rg_44_1 hI) (fun q hq => (u8.2 42 q (by omega)).trans ((u5.2 42 q (by omega)).trans ((ca3 q (by omega) (by omega)).trans (congrArg (M 45) (by omega))))) ((u8.2 0 12 (by omega)).trans ((u5.2 0 12 (by omega)).trans (cb4 0 12 (by omega)))) (fun k h1 f => (u8.2 k f (by omega)).trans ((u5.2 k f (by omega)).trans (cb4 k f (by omega)))), CH.pop hH (by omega) (rg_44_1 hI) (by have h9 := ((u8.2 44 1 (by omega)).trans u5.1); omega) (by have h9 := u8.1; omega) (fun f => (u8.2 45 f (by omega)).trans ((u5.2 45 f (by omega)).trans (cb4 45 f (by omega))))⟩⟩
def gC_147_m : List (Nat × Nat) := [(0, 12), (20, 99999), (23, 99999), (37, 99999), (40, 99999), (42, 99999), (43, 99999), (44, 1), (44, 2), (45, 99999), (61, 99999)]
theorem g_147 {xs : Nat → Int} {Ln d : Nat} {T : List cK} {M : cM} (hT : TT T) (hI : Rng M) {t : Nat} (ht : t = 8 ∨ t = 25) (h70 : M 7 0 = ((t : Nat) : Int)) {person room chair : Int} {D S : cM} (hC : CR D S t M) {H : Nat → cM} {hc : Int} (hH : CH D H hc M) (hG : Gm T M) : cC k_P xs Ln (d + 6) 147 [rf 0, (0, person), (0, room), (0, chair)] (T, M) (qW T M gC_147_m 0 (fun v M1 => ((v = -1 ∧ pCg D S person room chair = 0) ∧ CR D S t M1 ∧ CH D H hc M1) ∨ ((pCg D S person room chair = 1 ∧ v = pMv D S person room chair 4 person.toNat) ∧ CR D (pMv D S person room chair) t M1 ∧ CH D (pPh S H) (pC1 hc) M1))) := by
  show cP k_P xs Ln (d + 6) 147 0 [(0, rf 0), (1, (0, person)), (2, (0, room)), (3, (0, chair))] [] (T, M) _
  have hFm : Fr gC_147_m M M := Fr.refl
  have hD := hC.2.1
  have hDr := hD.rg
  have hSW := hC.2.2.2.2.1
  refine s_aload_n kx_147_0 rfl ?_
  refine r_getR (k := 0) (f := 2) (k2 := 7) kx_147_1 kp_147_26 (tk_0 hT) kf_11_2 (by decide) (rq_0_2 hI) ?_
  refine s_iload_n kx_147_4 rfl ?_
  refine s_iload_n kx_147_5 rfl ?_
  refine s_iload_n kx_147_6 rfl ?_
  refine s_callV2 (k := 7) (s1 := 4) (s2 := 0) (as := [(0, chair), (0, room), (0, person)]) (rest := []) kx_147_7 kp_147_228 (Or.inl rfl) rfl (tk_7 hT) ki_61 kcl_61 rfl rfl (by decide) (g_61 (d := d) (person := person) (to := room) (chair := chair) hT hI ht h70 hC hG) (kW (fun v1 M2 hI2 fr2 v1p => ?_))
  have hFm2 := hFm.call fr2 rfl
  have hc3 := (CR.fr hC fr2 ht rfl)
  have hc4 := (CH.fr hH fr2 rfl)
  refine s_istore kx_147_10 km_147_4 rfl ?_
  refine s_iload kx_147_12 rfl ?_
  refine s_iconst (v := (-1)) kx_147_14 (by decide) ?_
  refine s_icmp_ne (t := 24) kx_147_15 (by decide) (fun hc5 => ?_) (fun hc5 => ?_)
  · refine s_aload_n kx_147_24 rfl ?_
    refine r_getR (k := 0) (f := 3) (k2 := 44) kx_147_25 kp_147_33 (tk_0 hT) kf_11_3 (by decide) (rq_0_3 hI2) ?_
    refine s_aload_n kx_147_28 rfl ?_
    refine r_getR (k := 0) (f := 2) (k2 := 7) kx_147_29 kp_147_26 (tk_0 hT) kf_11_2 (by decide) (rq_0_2 hI2) ?_
    refine r_getR (k := 7) (f := 2) (k2 := 42) kx_147_32 kp_147_232 (tk_7 hT) kf_5_2 (by decide) (rq_7_2 hI2) ?_
    refine s_callV2 (k := 44) (s1 := 2) (s2 := 0) (as := [rf 42]) (rest := []) kx_147_35 kp_147_235 (Or.inl rfl) rfl (tk_44 hT) ki_16 kcl_16 rfl rfl (by decide) (g_16 (d := d + 4) hT hI2 ht ((fr2 7 0 rfl).trans h70) hc3 hc4) (kV (fun M7 hI7 fr7 v6p => ?_))
    have hFm7 := hFm2.call fr7 rfl
    have hc8 := v6p.1
    have hc9 := v6p.2
    refine s_aload_n kx_147_38 rfl ?_
    refine s_iload_n kx_147_39 rfl ?_
    refine s_iload_n kx_147_40 rfl ?_
    refine s_iload_n kx_147_41 rfl ?_
    refine s_iload kx_147_42 rfl ?_
    refine s_callV2 (k := 0) (s1 := 5) (s2 := 0) (as := [(0, v1), (0, chair), (0, room), (0, person)]) (rest := []) kx_147_44 kp_147_239 (Or.inl rfl) rfl (tk_0 hT) ki_169 kcl_169 rfl rfl (by decide) (g_169 (d := d + 2) (person := person) (room := room) (chair := chair) (minutes := v1) hT hI7 ht ((fr7 7 0 rfl).trans ((fr2 7 0 rfl).trans h70)) hc8 (by omega) (by omega) (by omega) (by omega) (by omega) (by omega) (by omega)) (kV (fun M11 hI11 fr11 v10p => ?_))
    have hFm11 := hFm7.call fr11 rfl
    have hc12 : CR D (pMv D S person room chair) t M11 := by have h9 := v10p; rw [show v1 = pMi D S person room chair by omega] at h9; exact h9
    have hc13 := (CH.fr hc9 fr11 rfl)
    refine s_aload_n kx_147_47 rfl ?_
    refine r_getR (k := 0) (f := 2) (k2 := 7) kx_147_48 kp_147_26 (tk_0 hT) kf_11_2 (by decide) (rq_0_2 hI11) ?_
    refine s_iload_n kx_147_51 rfl ?_
    refine s_callV2 (k := 7) (s1 := 2) (s2 := 0) (as := [(0, person)]) (rest := []) kx_147_52 kp_147_203 (Or.inl rfl) rfl (tk_7 hT) ki_46 kcl_46 rfl rfl (by decide) (g_46 (d := d + 5) (person := person) hT hI11 ht ((fr11 7 0 rfl).trans ((fr7 7 0 rfl).trans ((fr2 7 0 rfl).trans h70))) hc12 (by omega) (by omega)) (kF (fun v14 v14p => ?_))
    exact s_iret kx_147_55 (Or.inl kq_147) ⟨_, _, rfl, rfl, hI11, hFm11, (Or.inr ⟨⟨by omega, v14p.2.2⟩, hc12, hc13⟩)⟩
  · refine s_aload_n kx_147_18 rfl ?_
    refine s_iconst (v := 2) kx_147_19 (by decide) ?_
    refine s_callV2 (k := 0) (s1 := 2) (s2 := 0) (as := [(0, 2)]) (rest := []) kx_147_20 kp_147_81 (Or.inl rfl) rfl (tk_0 hT) ki_165 kcl_165 rfl rfl (by decide) (m_165 (d := d + 5) (kind := 2) hT hI2) (kW (fun v15 M16 hI16 fr16 v15p => ?_))
    have hFm16 := hFm2.call fr16 rfl
    have hc17 := (CR.fr hc3 fr16 ht rfl)
    have hc18 := (CH.fr hc4 fr16 rfl)
    exact s_iret kx_147_23 (Or.inl kq_147) ⟨_, _, rfl, rfl, hI16, hFm16, (Or.inl ⟨by omega, hc17, hc18⟩)⟩
def gC_148_m : List (Nat × Nat) := [(20, 99999), (23, 99999), (37, 99999), (40, 99999), (42, 99999), (43, 99999), (44, 1), (44, 2), (45, 99999), (61, 99999)]
theorem g_148 {xs : Nat → Int} {Ln d : Nat} {T : List cK} {M : cM} (hT : TT T) (hI : Rng M) {t : Nat} (ht : t = 8 ∨ t = 25) (h70 : M 7 0 = ((t : Nat) : Int)) (hN : Fm T M) {person n : Int} {D S : cM} (hC : CR D S t M) {H : Nat → cM} {hc : Int} (hH : CH D H hc M) : cC k_P xs Ln (d + 5) 148 [rf 0, (0, person), (0, n)] (T, M) (qW T M gC_148_m 0 (fun v M1 => ((v = -1 ∧ ¬ (0 ≤ person ∧ person < D 0 1 ∧ 1 ≤ n ∧ n ≤ 999)) ∧ CR D S t M1 ∧ CH D H hc M1) ∨ ((0 ≤ person ∧ person < D 0 1 ∧ 1 ≤ n ∧ n ≤ 999) ∧ CR D (pSp S person n) t M1 ∧ CH D (pPh S H) (pC1 hc) M1))) := by
  show cP k_P xs Ln (d + 5) 148 0 [(0, rf 0), (1, (0, person)), (2, (0, n))] [] (T, M) _
  have hFm : Fr gC_148_m M M := Fr.refl
  have hD := hC.2.1
  have hDr := hD.rg
  have hSW := hC.2.2.2.2.1
  refine s_aload_n kx_148_0 rfl ?_
  refine r_getR (k := 0) (f := 2) (k2 := 7) kx_148_1 kp_148_26 (tk_0 hT) kf_11_2 (by decide) (rq_0_2 hI) ?_
  refine r_getR (k := 7) (f := 0) (k2 := t) kx_148_4 kp_148_120 (tk_7 hT) kf_5_0 (by decide) h70 ?_
  refine s_iload_n kx_148_7 rfl ?_
  refine s_callV2 (k := t) (s1 := 2) (s2 := 0) (as := [(0, person)]) (rest := []) kx_148_8 kp_148_164 (Or.inl rfl) rfl (tkt_0 hT ht) ki_107 kcl_107 rfl rfl (by decide) (g_107 (d := d + 4) (person := person) hT hI ht h70 hC) (kF (fun v1 v1p => ?_))
  refine s_if_eq (t := 26) kx_148_11 (by decide) (fun hc2 => ?_) (fun hc2 => ?_)
  · replace v1p := v1p.resolve_left (by omega)
    refine s_aload_n kx_148_26 rfl ?_
    refine s_iconst (v := 2) kx_148_27 (by decide) ?_
    refine s_callV2 (k := 0) (s1 := 2) (s2 := 0) (as := [(0, 2)]) (rest := []) kx_148_28 kp_148_81 (Or.inl rfl) rfl (tk_0 hT) ki_165 kcl_165 rfl rfl (by decide) (m_165 (d := d + 4) (kind := 2) hT hI) (kW (fun v3 M4 hI4 fr4 v3p => ?_))
    have hFm4 := hFm.call fr4 rfl
    have hc5 := (CR.fr hC fr4 ht rfl)
    have hc6 := (CH.fr hH fr4 rfl)
    exact s_iret kx_148_31 (Or.inl kq_148) ⟨_, _, rfl, rfl, hI4, hFm4, (Or.inl ⟨by omega, hc5, hc6⟩)⟩
  · replace v1p := v1p.resolve_right (by omega)
    refine s_iload_n kx_148_14 rfl ?_
    refine s_iconst (v := 1) kx_148_15 (by decide) ?_
    refine s_icmp_lt (t := 26) kx_148_16 (by decide) (fun hc7 => ?_) (fun hc7 => ?_)
    · refine s_aload_n kx_148_26 rfl ?_
      refine s_iconst (v := 2) kx_148_27 (by decide) ?_
      refine s_callV2 (k := 0) (s1 := 2) (s2 := 0) (as := [(0, 2)]) (rest := []) kx_148_28 kp_148_81 (Or.inl rfl) rfl (tk_0 hT) ki_165 kcl_165 rfl rfl (by decide) (m_165 (d := d + 4) (kind := 2) hT hI) (kW (fun v8 M9 hI9 fr9 v8p => ?_))
      have hFm9 := hFm.call fr9 rfl
      have hc10 := (CR.fr hC fr9 ht rfl)
      have hc11 := (CH.fr hH fr9 rfl)
      exact s_iret kx_148_31 (Or.inl kq_148) ⟨_, _, rfl, rfl, hI9, hFm9, (Or.inl ⟨by omega, hc10, hc11⟩)⟩
    · refine s_iload_n kx_148_19 rfl ?_
      refine s_sipush (v := 999) kx_148_20 (by decide) ?_
      refine s_icmp_le (t := 32) kx_148_23 (by decide) (fun hc12 => ?_) (fun hc12 => ?_)
      · refine s_aload_n kx_148_32 rfl ?_
        refine r_getR (k := 0) (f := 3) (k2 := 44) kx_148_33 kp_148_33 (tk_0 hT) kf_11_3 (by decide) (rq_0_3 hI) ?_
        refine s_aload_n kx_148_36 rfl ?_
        refine r_getR (k := 0) (f := 2) (k2 := 7) kx_148_37 kp_148_26 (tk_0 hT) kf_11_2 (by decide) (rq_0_2 hI) ?_
        refine r_getR (k := 7) (f := 2) (k2 := 42) kx_148_40 kp_148_232 (tk_7 hT) kf_5_2 (by decide) (rq_7_2 hI) ?_
        refine s_callV2 (k := 44) (s1 := 2) (s2 := 0) (as := [rf 42]) (rest := []) kx_148_43 kp_148_235 (Or.inl rfl) rfl (tk_44 hT) ki_16 kcl_16 rfl rfl (by decide) (g_16 (d := d + 3) hT hI ht h70 hC hH) (kV (fun M14 hI14 fr14 v13p => ?_))
        have hFm14 := hFm.call fr14 rfl
        have hc15 := v13p.1
        have hc16 := v13p.2
        refine s_aload_n kx_148_46 rfl ?_
        refine r_getR (k := 0) (f := 2) (k2 := 7) kx_148_47 kp_148_26 (tk_0 hT) kf_11_2 (by decide) (rq_0_2 hI14) ?_
        refine s_iload_n kx_148_50 rfl ?_
        refine s_iload_n kx_148_51 rfl ?_
        refine s_callV2 (k := 7) (s1 := 3) (s2 := 0) (as := [(0, n), (0, person)]) (rest := []) kx_148_52 kp_148_243 (Or.inl rfl) rfl (tk_7 hT) ki_69 kcl_69 rfl rfl (by decide) (g_69 (d := d) (person := person) (minutes := n) hT hI14 ht ((fr14 7 0 rfl).trans h70) (hN.fr hFm14 rfl) hc15 (by omega) (by omega) (by omega)) (kV (fun M18 hI18 fr18 v17p => ?_))
        have hFm18 := hFm14.call fr18 rfl
        have hc19 := v17p
        have hc20 := (CH.fr hc16 fr18 rfl)
        refine s_aload_n kx_148_55 rfl ?_
        refine r_getR (k := 0) (f := 2) (k2 := 7) kx_148_56 kp_148_26 (tk_0 hT) kf_11_2 (by decide) (rq_0_2 hI18) ?_
        refine s_iload_n kx_148_59 rfl ?_
        refine s_callV2 (k := 7) (s1 := 2) (s2 := 0) (as := [(0, person)]) (rest := []) kx_148_60 kp_148_206 (Or.inl rfl) rfl (tk_7 hT) ki_47 kcl_47 rfl rfl (by decide) (m_47 (d := d + 4) (person := person) hT hI18 (by omega)) (kF (fun v21 v21p => ?_))
        exact s_iret kx_148_63 (Or.inl kq_148) ⟨_, _, rfl, rfl, hI18, hFm18, (Or.inr ⟨by omega, hc19, hc20⟩)⟩
      · refine s_aload_n kx_148_26 rfl ?_
        refine s_iconst (v := 2) kx_148_27 (by decide) ?_
        refine s_callV2 (k := 0) (s1 := 2) (s2 := 0) (as := [(0, 2)]) (rest := []) kx_148_28 kp_148_81 (Or.inl rfl) rfl (tk_0 hT) ki_165 kcl_165 rfl rfl (by decide) (m_165 (d := d + 4) (kind := 2) hT hI) (kW (fun v22 M23 hI23 fr23 v22p => ?_))
        have hFm23 := hFm.call fr23 rfl
        have hc24 := (CR.fr hC fr23 ht rfl)
        have hc25 := (CH.fr hH fr23 rfl)
        exact s_iret kx_148_31 (Or.inl kq_148) ⟨_, _, rfl, rfl, hI23, hFm23, (Or.inl ⟨by omega, hc24, hc25⟩)⟩
def gC_149_m : List (Nat × Nat) := [(42, 99999), (44, 1), (44, 2), (45, 99999), (61, 99999)]
theorem g_149 {xs : Nat → Int} {Ln d : Nat} {T : List cK} {M : cM} (hT : TT T) (hI : Rng M) {t : Nat} (ht : t = 8 ∨ t = 25) (h70 : M 7 0 = ((t : Nat) : Int)) {person chair : Int} {D S : cM} (hC : CR D S t M) {H : Nat → cM} {hc : Int} (hH : CH D H hc M) : cC k_P xs Ln (d + 3) 149 [rf 0, (0, person), (0, chair)] (T, M) (qW T M gC_149_m 0 (fun v M1 => ((v = 0 ∧ pCm D S person chair = 0) ∧ CR D S t M1 ∧ CH D H hc M1) ∨ ((v = 1 ∧ pCm D S person chair = 1) ∧ CR D (pSp (c_up S 2 chair.toNat 0) person 30) t M1 ∧ CH D (pPh S H) (pC1 hc) M1))) := by
  show cP k_P xs Ln (d + 3) 149 0 [(0, rf 0), (1, (0, person)), (2, (0, chair))] [] (T, M) _
  have hFm : Fr gC_149_m M M := Fr.refl
  have hD := hC.2.1
  have hDr := hD.rg
  have hSW := hC.2.2.2.2.1
  refine s_aload_n kx_149_0 rfl ?_
  refine r_getR (k := 0) (f := 2) (k2 := 7) kx_149_1 kp_149_26 (tk_0 hT) kf_11_2 (by decide) (rq_0_2 hI) ?_
  refine s_iload_n kx_149_4 rfl ?_
  refine s_iload_n kx_149_5 rfl ?_
  refine s_callV2 (k := 7) (s1 := 3) (s2 := 0) (as := [(0, chair), (0, person)]) (rest := []) kx_149_6 kp_149_247 (Or.inl rfl) rfl (tk_7 hT) ki_70 kcl_70 rfl rfl (by decide) (g_70 (d := d + 1) (person := person) (chair := chair) hT hI ht h70 hC) (kF (fun v1 v1p => ?_))
  refine s_if_ne (t := 20) kx_149_9 (by decide) (fun hc2 => ?_) (fun hc2 => ?_)
  · replace v1p := v1p.resolve_right (by omega)
    refine s_aload_n kx_149_20 rfl ?_
    refine r_getR (k := 0) (f := 3) (k2 := 44) kx_149_21 kp_149_33 (tk_0 hT) kf_11_3 (by decide) (rq_0_3 hI) ?_
    refine s_aload_n kx_149_24 rfl ?_
    refine r_getR (k := 0) (f := 2) (k2 := 7) kx_149_25 kp_149_26 (tk_0 hT) kf_11_2 (by decide) (rq_0_2 hI) ?_
    refine r_getR (k := 7) (f := 2) (k2 := 42) kx_149_28 kp_149_232 (tk_7 hT) kf_5_2 (by decide) (rq_7_2 hI) ?_
    refine s_callV2 (k := 44) (s1 := 2) (s2 := 0) (as := [rf 42]) (rest := []) kx_149_31 kp_149_235 (Or.inl rfl) rfl (tk_44 hT) ki_16 kcl_16 rfl rfl (by decide) (g_16 (d := d + 1) hT hI ht h70 hC hH) (kV (fun M4 hI4 fr4 v3p => ?_))
    have hFm4 := hFm.call fr4 rfl
    have hc5 := v3p.1
    have hc6 := v3p.2
    refine s_aload_n kx_149_34 rfl ?_
    refine r_getR (k := 0) (f := 2) (k2 := 7) kx_149_35 kp_149_26 (tk_0 hT) kf_11_2 (by decide) (rq_0_2 hI4) ?_
    refine s_iload_n kx_149_38 rfl ?_
    refine s_iload_n kx_149_39 rfl ?_
    refine s_callV2 (k := 7) (s1 := 3) (s2 := 0) (as := [(0, chair), (0, person)]) (rest := []) kx_149_40 kp_149_250 (Or.inl rfl) rfl (tk_7 hT) ki_71 kcl_71 rfl rfl (by decide) (g_71 (d := d) (person := person) (chair := chair) hT hI4 ht ((fr4 7 0 rfl).trans h70) hc5 (by omega) (by omega) (by omega) (by omega)) (kV (fun M8 hI8 fr8 v7p => ?_))
    have hFm8 := hFm4.call fr8 rfl
    have hc9 := v7p
    have hc10 := (CH.fr hc6 fr8 rfl)
    refine s_iconst (v := 1) kx_149_43 (by decide) ?_
    exact s_iret kx_149_44 (Or.inr ⟨kq_149, by omega⟩) ⟨_, _, rfl, rfl, hI8, hFm8, (Or.inr ⟨by omega, hc9, hc10⟩)⟩
  · replace v1p := v1p.resolve_left (by omega)
    refine s_aload_n kx_149_12 rfl ?_
    refine s_iconst (v := 3) kx_149_13 (by decide) ?_
    refine s_callV2 (k := 0) (s1 := 2) (s2 := 0) (as := [(0, 3)]) (rest := []) kx_149_14 kp_149_81 (Or.inl rfl) rfl (tk_0 hT) ki_165 kcl_165 rfl rfl (by decide) (m_165 (d := d + 2) (kind := 3) hT hI) (kW (fun v11 M12 hI12 fr12 v11p => ?_))
    have hFm12 := hFm.call fr12 rfl
    have hc13 := (CR.fr hC fr12 ht rfl)
    have hc14 := (CH.fr hH fr12 rfl)
    refine s_pop kx_149_17 rfl ?_
    refine s_iconst (v := 0) kx_149_18 (by decide) ?_
    exact s_iret kx_149_19 (Or.inr ⟨kq_149, by omega⟩) ⟨_, _, rfl, rfl, hI12, hFm12, (Or.inl ⟨by omega, hc13, hc14⟩)⟩
def gC_151_m : List (Nat × Nat) := [(42, 99999), (44, 1), (44, 2), (61, 99999)]
theorem g_151 {xs : Nat → Int} {Ln d : Nat} {T : List cK} {M : cM} (hT : TT T) (hI : Rng M) {t : Nat} (ht : t = 8 ∨ t = 25) (h70 : M 7 0 = ((t : Nat) : Int)) {D S : cM} (hC : CR D S t M) {H : Nat → cM} {hc : Int} (hH : CH D H hc M) : cC k_P xs Ln (d + 2) 151 [rf 0] (T, M) (qW T M gC_151_m 0 (fun v M1 => ((v = 0 ∧ hc = 0) ∧ CR D S t M1 ∧ CH D H hc M1) ∨ ((v = 1 ∧ hc ≠ 0) ∧ CR D (pUn S (H 0)) t M1 ∧ CH D (fun k => H (k + 1)) (hc - 1) M1))) := by
  show cP k_P xs Ln (d + 2) 151 0 [(0, rf 0)] [] (T, M) _
  have hFm : Fr gC_151_m M M := Fr.refl
  have hD := hC.2.1
  have hDr := hD.rg
  have hSW := hC.2.2.2.2.1
  have hHc := hH.1
  refine s_aload_n kx_151_0 rfl ?_
  refine r_getR (k := 0) (f := 3) (k2 := 44) kx_151_1 kp_151_33 (tk_0 hT) kf_11_3 (by decide) (rq_0_3 hI) ?_
  refine r_getU (k := 44) (f := 2) kx_151_4 kp_151_110 (tk_44 hT) kf_2_2 (fun _ => rfl) (fun v1 v1e => ?_)
  refine s_if_ne (t := 18) kx_151_7 (by decide) (fun hc2 => ?_) (fun hc2 => ?_)
  · refine s_aload_n kx_151_18 rfl ?_
    refine r_getR (k := 0) (f := 3) (k2 := 44) kx_151_19 kp_151_33 (tk_0 hT) kf_11_3 (by decide) (rq_0_3 hI) ?_
    refine s_aload_n kx_151_22 rfl ?_
    refine r_getR (k := 0) (f := 2) (k2 := 7) kx_151_23 kp_151_26 (tk_0 hT) kf_11_2 (by decide) (rq_0_2 hI) ?_
    refine r_getR (k := 7) (f := 2) (k2 := 42) kx_151_26 kp_151_232 (tk_7 hT) kf_5_2 (by decide) (rq_7_2 hI) ?_
    refine s_callV2 (k := 44) (s1 := 2) (s2 := 0) (as := [rf 42]) (rest := []) kx_151_29 kp_151_256 (Or.inl rfl) rfl (tk_44 hT) ki_17 kcl_17 rfl rfl (by decide) (g_17 (d := d) hT hI ht h70 hC hH (by omega)) (kV (fun M4 hI4 fr4 v3p => ?_))
    have hFm4 := hFm.call fr4 rfl
    have hc5 := v3p.1
    have hc6 := v3p.2
    refine s_iconst (v := 1) kx_151_32 (by decide) ?_
    exact s_iret kx_151_33 (Or.inr ⟨kq_151, by omega⟩) ⟨_, _, rfl, rfl, hI4, hFm4, (Or.inr ⟨by omega, hc5, hc6⟩)⟩
  · refine s_aload_n kx_151_10 rfl ?_
    refine s_iconst (v := 4) kx_151_11 (by decide) ?_
    refine s_callV2 (k := 0) (s1 := 2) (s2 := 0) (as := [(0, 4)]) (rest := []) kx_151_12 kp_151_81 (Or.inl rfl) rfl (tk_0 hT) ki_165 kcl_165 rfl rfl (by decide) (m_165 (d := d + 1) (kind := 4) hT hI) (kW (fun v7 M8 hI8 fr8 v7p => ?_))
    have hFm8 := hFm.call fr8 rfl
    have hc9 := (CR.fr hC fr8 ht rfl)
    have hc10 := (CH.fr hH fr8 rfl)
    refine s_pop kx_151_15 rfl ?_
    refine s_iconst (v := 0) kx_151_16 (by decide) ?_
    exact s_iret kx_151_17 (Or.inr ⟨kq_151, by omega⟩) ⟨_, _, rfl, rfl, hI8, hFm8, (Or.inl ⟨by omega, hc9, hc10⟩)⟩
def gC_152_m : List (Nat × Nat) := [(0, 12), (61, 99999)]
theorem g_152 {xs : Nat → Int} {Ln d : Nat} {T : List cK} {M : cM} (hT : TT T) (hI : Rng M) {t : Nat} (ht : t = 8 ∨ t = 25) (h70 : M 7 0 = ((t : Nat) : Int)) {seed : Int} {D S : cM} (hC : CR D S t M) {H : Nat → cM} {hc : Int} (hH : CH D H hc M) (p0 : seed ≤ 2147483647) : cC k_P xs Ln (d + 1) 152 [rf 0, (0, seed)] (T, M) (qW T M gC_152_m 0 (fun v M1 => ((v = 0 ∧ seed < 0) ∧ CR D S t M1 ∧ CH D H hc M1) ∨ ((v = 1 ∧ 0 ≤ seed) ∧ CR D (c_up S 3 0 seed) t M1 ∧ CH D H hc M1))) := by
  show cP k_P xs Ln (d + 1) 152 0 [(0, rf 0), (1, (0, seed))] [] (T, M) _
  have hFm : Fr gC_152_m M M := Fr.refl
  have hD := hC.2.1
  have hDr := hD.rg
  have hSW := hC.2.2.2.2.1
  refine s_iload_n kx_152_0 rfl ?_
  refine s_if_ge (t := 12) kx_152_1 (by decide) (fun hc1 => ?_) (fun hc1 => ?_)
  · refine s_aload_n kx_152_12 rfl ?_
    refine s_iload_n kx_152_13 rfl ?_
    refine r_put (k := 0) (f := 12) kx_152_14 kp_152_75 (tk_0 hT) kf_11_12 rfl (by decide) (by decide) hI (ru_0_12 (by omega) (by omega)) (fun M2 hI2 u2 => ?_)
    have hFm2 := hFm.up u2 rfl
    have hc3 := (CR.u3 hC u2 ht)
    have hc4 := (CH.up hH u2 (by omega))
    refine s_iconst (v := 1) kx_152_17 (by decide) ?_
    exact s_iret kx_152_18 (Or.inr ⟨kq_152, by omega⟩) ⟨_, _, rfl, rfl, hI2, hFm2, (Or.inr ⟨by omega, hc3, hc4⟩)⟩
  · refine s_aload_n kx_152_4 rfl ?_
    refine s_iconst (v := 5) kx_152_5 (by decide) ?_
    refine s_callV2 (k := 0) (s1 := 2) (s2 := 0) (as := [(0, 5)]) (rest := []) kx_152_6 kp_152_81 (Or.inl rfl) rfl (tk_0 hT) ki_165 kcl_165 rfl rfl (by decide) (m_165 (d := d) (kind := 5) hT hI) (kW (fun v5 M6 hI6 fr6 v5p => ?_))
    have hFm6 := hFm.call fr6 rfl
    have hc7 := (CR.fr hC fr6 ht rfl)
    have hc8 := (CH.fr hH fr6 rfl)
    refine s_pop kx_152_9 rfl ?_
    refine s_iconst (v := 0) kx_152_10 (by decide) ?_
    exact s_iret kx_152_11 (Or.inr ⟨kq_152, by omega⟩) ⟨_, _, rfl, rfl, hI6, hFm6, (Or.inl ⟨by omega, hc7, hc8⟩)⟩
def gC_150_l35 : List (Nat × Nat) := [(0, 12), (20, 99999), (23, 99999), (37, 99999), (40, 99999), (42, 99999), (43, 99999)]
def gC_150_l43 : List (Nat × Nat) := [(0, 12), (20, 99999), (23, 99999), (37, 99999), (40, 99999), (42, 99999), (43, 99999)]
def gC_150_m : List (Nat × Nat) := [(0, 12), (20, 99999), (23, 99999), (37, 99999), (40, 99999), (42, 99999), (43, 99999), (44, 1), (44, 2), (45, 99999), (61, 99999)]
theorem g_150 {xs : Nat → Int} {Ln d : Nat} {T : List cK} {M : cM} (hT : TT T) (hI : Rng M) {t : Nat} (ht : t = 8 ∨ t = 25) (h70 : M 7 0 = ((t : Nat) : Int)) (hN : Fm T M) {n : Int} {D S : cM} (hC : CR D S t M) {H : Nat → cM} {hc : Int} (hH : CH D H hc M) (hG : Gm T M) : cC k_P xs Ln (d + 7) 150 [rf 0, (0, n)] (T, M) (qW T M gC_150_m 0 (fun v M1 => ((v = -1 ∧ ¬ (1 ≤ n ∧ n ≤ 30)) ∧ CR D S t M1 ∧ CH D H hc M1) ∨ ((v = pDsB D S n.toNat ∧ (1 ≤ n ∧ n ≤ 30)) ∧ CR D (pDs D S n.toNat) t M1 ∧ CH D (pPh S H) (pC1 hc) M1))) := by
  show cP k_P xs Ln (d + 7) 150 0 [(0, rf 0), (1, (0, n))] [] (T, M) _
  have hFm : Fr gC_150_m M M := Fr.refl
  have hD := hC.2.1
  have hDr := hD.rg
  have hSW := hC.2.2.2.2.1
  refine s_iload_n kx_150_0 rfl ?_
  refine s_iconst (v := 1) kx_150_1 (by decide) ?_
  refine s_icmp_lt (t := 11) kx_150_2 (by decide) (fun hc1 => ?_) (fun hc1 => ?_)
  · refine s_aload_n kx_150_11 rfl ?_
    refine s_iconst (v := 3) kx_150_12 (by decide) ?_
    refine s_callV2 (k := 0) (s1 := 2) (s2 := 0) (as := [(0, 3)]) (rest := []) kx_150_13 kp_150_81 (Or.inl rfl) rfl (tk_0 hT) ki_165 kcl_165 rfl rfl (by decide) (m_165 (d := d + 6) (kind := 3) hT hI) (kW (fun v2 M3 hI3 fr3 v2p => ?_))
    have hFm3 := hFm.call fr3 rfl
    have hc4 := (CR.fr hC fr3 ht rfl)
    have hc5 := (CH.fr hH fr3 rfl)
    exact s_iret kx_150_16 (Or.inl kq_150) ⟨_, _, rfl, rfl, hI3, hFm3, (Or.inl ⟨by omega, hc4, hc5⟩)⟩
  · refine s_iload_n kx_150_5 rfl ?_
    refine s_bipush (v := 30) kx_150_6 (by decide) ?_
    refine s_icmp_le (t := 17) kx_150_8 (by decide) (fun hc6 => ?_) (fun hc6 => ?_)
    · refine s_aload_n kx_150_17 rfl ?_
      refine r_getR (k := 0) (f := 3) (k2 := 44) kx_150_18 kp_150_33 (tk_0 hT) kf_11_3 (by decide) (rq_0_3 hI) ?_
      refine s_aload_n kx_150_21 rfl ?_
      refine r_getR (k := 0) (f := 2) (k2 := 7) kx_150_22 kp_150_26 (tk_0 hT) kf_11_2 (by decide) (rq_0_2 hI) ?_
      refine r_getR (k := 7) (f := 2) (k2 := 42) kx_150_25 kp_150_232 (tk_7 hT) kf_5_2 (by decide) (rq_7_2 hI) ?_
      refine s_callV2 (k := 44) (s1 := 2) (s2 := 0) (as := [rf 42]) (rest := []) kx_150_28 kp_150_235 (Or.inl rfl) rfl (tk_44 hT) ki_16 kcl_16 rfl rfl (by decide) (g_16 (d := d + 5) hT hI ht h70 hC hH) (kV (fun M8 hI8 fr8 v7p => ?_))
      have hFm8 := hFm.call fr8 rfl
      have hc9 := v7p.1
      have hc10 := v7p.2
      refine s_iconst (v := 0) kx_150_31 (by decide) ?_
      refine s_istore_n kx_150_32 km_150_2 rfl ?_
      refine s_iconst (v := 0) kx_150_33 (by decide) ?_
      refine s_istore_n kx_150_34 km_150_3 rfl ?_
      have key14 : ∀ n15 : Nat, ∀ (x2_11 x3_12 : Int), ∀ M13 : cM, Rng M13 → Fr gC_150_m M M13 → Fr gC_150_l35 M8 M13 → (0 ≤ x2_11) → (x2_11 ≤ 240) → (0 ≤ x3_12) → (x3_12 ≤ 30) → (x2_11 = pDsB D S (x3_12).toNat) → (0 ≤ x2_11) → (x2_11 ≤ 8 * x3_12) → (x3_12 ≤ n) → (CR D (pDs D S (x3_12).toNat) t M13) → (CH D (pPh S H) (pC1 hc) M13) → (2147483647 - x3_12).toNat < n15 → cP k_P xs Ln (d + 7) 150 35 [(0, rf 0), (1, (0, n)), (2, (0, x2_11)), (3, (0, x3_12))] [] (T, M13) (qW T M gC_150_m 0 (fun v M1 => ((v = -1 ∧ ¬ (1 ≤ n ∧ n ≤ 30)) ∧ CR D S t M1 ∧ CH D H hc M1) ∨ ((v = pDsB D S n.toNat ∧ (1 ≤ n ∧ n ≤ 30)) ∧ CR D (pDs D S n.toNat) t M1 ∧ CH D (pPh S H) (pC1 hc) M1))) := by
        intro n15
        induction n15 with
        | zero => intro x2_11 x3_12 M13 hI13 hFm13 fl13 i16 i17 i18 i19 i20 i21 i22 i23 i24 i25 hm26; exact absurd hm26 (Nat.not_lt_zero _)
        | succ n15 ih27 =>
          intro x2_11 x3_12 M13 hI13 hFm13 fl13 i16 i17 i18 i19 i20 i21 i22 i23 i24 i25 hm26
          refine s_iload_n kx_150_35 rfl ?_
          refine s_iload_n kx_150_36 rfl ?_
          refine s_icmp_ge (t := 79) kx_150_37 (by decide) (fun hc28 => ?_) (fun hc28 => ?_)
          · refine s_iload_n kx_150_79 rfl ?_
            exact s_iret kx_150_80 (Or.inl kq_150) ⟨_, _, rfl, rfl, hI13, hFm13, (by have hz : x3_12 = n := (by omega); rw [← hz]; exact Or.inr ⟨⟨i20, by omega⟩, i24, i25⟩)⟩
          · refine s_iconst (v := 0) kx_150_40 (by decide) ?_
            refine s_istore kx_150_41 km_150_4 rfl ?_
            have key32 : ∀ n33 : Nat, ∀ (x2_29 x4_30 : Int), ∀ M31 : cM, Rng M31 → Fr gC_150_m M M31 → Fr gC_150_l35 M8 M31 → Fr gC_150_l43 M13 M31 → (0 ≤ x2_29) → (x2_29 ≤ 248) → (0 ≤ x4_30) → (x4_30 ≤ 8) → (x2_29 = pDsB D S (x3_12).toNat + pPpB D (pDs D S (x3_12).toNat) (x4_30).toNat) → (x2_29 ≤ 8 * x3_12 + x4_30) → (x4_30 ≤ D 0 1) → (CR D (pPp D (pDs D S (x3_12).toNat) (x4_30).toNat) t M31) → (CH D (pPh S H) (pC1 hc) M31) → (2147483647 - x4_30).toNat < n33 → cP k_P xs Ln (d + 7) 150 43 [(0, rf 0), (1, (0, n)), (2, (0, x2_29)), (3, (0, x3_12)), (4, (0, x4_30))] [] (T, M31) (qW T M gC_150_m 0 (fun v M1 => ((v = -1 ∧ ¬ (1 ≤ n ∧ n ≤ 30)) ∧ CR D S t M1 ∧ CH D H hc M1) ∨ ((v = pDsB D S n.toNat ∧ (1 ≤ n ∧ n ≤ 30)) ∧ CR D (pDs D S n.toNat) t M1 ∧ CH D (pPh S H) (pC1 hc) M1))) := by
              intro n33
              induction n33 with
              | zero => intro x2_29 x4_30 M31 hI31 hFm31 hFl3531 fl31 i34 i35 i36 i37 i38 i39 i40 i41 i42 hm43; exact absurd hm43 (Nat.not_lt_zero _)
              | succ n33 ih44 =>
                intro x2_29 x4_30 M31 hI31 hFm31 hFl3531 fl31 i34 i35 i36 i37 i38 i39 i40 i41 i42 hm43
                refine s_iload kx_150_43 rfl ?_
                refine s_aload_n kx_150_45 rfl ?_
                refine r_getR (k := 0) (f := 2) (k2 := 7) kx_150_46 kp_150_26 (tk_0 hT) kf_11_2 (by decide) (rq_0_2 hI31) ?_
                refine r_getR (k := 7) (f := 0) (k2 := t) kx_150_49 kp_150_120 (tk_7 hT) kf_5_0 (by decide) ((fl31 7 0 rfl).trans ((fl13 7 0 rfl).trans ((fr8 7 0 rfl).trans h70))) ?_
                refine r_getI (k := t) (f := 1) kx_150_52 kp_150_128 (tkt_0 hT ht) kf_9_1 (fun _ => rfl) (rgt_0_1 hI31 ht) (fun v45 v45e v45a v45b => ?_)
                have v45d : D 0 1 = v45 := ((i41).1 0 1 (by decide)).symm.trans v45e
                have v45z : M t 1 = v45 := (((fl31 t 1 (by rcases ht with rfl | rfl <;> rfl)).trans ((fl13 t 1 (by rcases ht with rfl | rfl <;> rfl)).trans (fr8 t 1 (by rcases ht with rfl | rfl <;> rfl))))).symm.trans v45e
                refine s_icmp_ge (t := 73) kx_150_55 (by decide) (fun hc46 => ?_) (fun hc46 => ?_)
                · refine r_iinc kx_150_73 rfl km_150_3 (by decide) ⟨by omega, by omega⟩ rfl ?_
                  refine s_goto (t := 35) kx_150_76 (by decide) ?_
                  have hds := pDs_S (D := D) (S := S) (x := x3_12) (by omega); have hz4 : x4_30 = D 0 1 := (by omega); have heq := i38; rw [hz4] at heq; have hc47 : CR D (pDs D S (x3_12 + 1).toNat) t M31 := by rw [hds.1, ← hz4]; exact i41
                  exact cP.wk (lS1 rfl (lS1 rfl (lS1 rfl (lS1 rfl lS0)))) (ih27 x2_29 (x3_12 + 1) M31 hI31 hFm31 hFl3531 (by omega) (by omega) (by omega) (by omega) (by omega) (by omega) (by omega) (by omega) hc47 i42 (by omega))
                · refine s_iload_n kx_150_58 rfl ?_
                  refine s_aload_n kx_150_59 rfl ?_
                  refine s_iload kx_150_60 rfl ?_
                  refine s_callV2 (k := 0) (s1 := 2) (s2 := 1) (as := [(0, x4_30)]) (rest := [(0, x2_29)]) kx_150_62 kp_150_253 (Or.inl rfl) rfl (tk_0 hT) ki_170 kcl_170 rfl rfl (by decide) (g_170 (d := d) (person := x4_30) hT hI31 ht ((fl31 7 0 rfl).trans ((fl13 7 0 rfl).trans ((fr8 7 0 rfl).trans h70))) (hN.fr hFm31 rfl) i41 (Gm.fr (Gm.fr (Gm.fr hG fr8 rfl) fl13 rfl) fl31 rfl) (by omega) (by omega)) (kW (fun v48 M49 hI49 fr49 v48p => ?_))
                  have hFm49 := hFm31.call fr49 rfl
                  have hFl3549 := hFl3531.call fr49 rfl
                  have hFl4349 := fl31.call fr49 rfl
                  have hc50 := v48p.2.2.2
                  have hc51 := (CH.fr i42 fr49 rfl)
                  refine r_add kx_150_65 ⟨by omega, by omega⟩ ?_
                  refine s_istore_n kx_150_66 km_150_2 rfl ?_
                  refine r_iinc kx_150_67 rfl km_150_4 (by decide) ⟨by omega, by omega⟩ rfl ?_
                  refine s_goto (t := 43) kx_150_70 (by decide) ?_
                  have hpp := pPp_S (D := D) (S := (pDs D S (x3_12).toNat)) (x := x4_30) (by omega); have hc52 : CR D (pPp D (pDs D S (x3_12).toNat) (x4_30 + 1).toNat) t M49 := by rw [hpp.1]; exact hc50
                  exact cP.wk (lS1 rfl (lS1 rfl (lS1 rfl (lS1 rfl (lS1 rfl lS0))))) (ih44 (x2_29 + v48) (x4_30 + 1) M49 hI49 hFm49 hFl3549 hFl4349 (by omega) (by omega) (by omega) (by omega) (by omega) (by omega) (by omega) hc52 hc51 (by omega))
            have hz1 : pPpB D (pDs D S (x3_12).toNat) (0 : Int).toNat = 0 := rfl
            exact cP.wk (lS1 rfl (lS1 rfl (lS1 rfl (lS1 rfl (lS1 rfl lS0))))) (key32 _ x2_11 0 M13 hI13 hFm13 fl13 Fr.refl (by omega) (by omega) (by omega) (by omega) (by omega) (by omega) (by omega) i24 i25 (Nat.lt_succ_self _))
      have hz0 : pDsB D S (0 : Int).toNat = 0 := rfl
      exact cP.wk (lS1 rfl (lS1 rfl (lS1 rfl (lS1 rfl lS0)))) (key14 _ 0 0 M8 hI8 hFm8 Fr.refl (by omega) (by omega) (by omega) (by omega) (by omega) (by omega) (by omega) (by omega) hc9 hc10 (Nat.lt_succ_self _))
    · refine s_aload_n kx_150_11 rfl ?_
      refine s_iconst (v := 3) kx_150_12 (by decide) ?_
      refine s_callV2 (k := 0) (s1 := 2) (s2 := 0) (as := [(0, 3)]) (rest := []) kx_150_13 kp_150_81 (Or.inl rfl) rfl (tk_0 hT) ki_165 kcl_165 rfl rfl (by decide) (m_165 (d := d + 6) (kind := 3) hT hI) (kW (fun v53 M54 hI54 fr54 v53p => ?_))
      have hFm54 := hFm.call fr54 rfl
      have hc55 := (CR.fr hC fr54 ht rfl)
      have hc56 := (CH.fr hH fr54 rfl)
      exact s_iret kx_150_16 (Or.inl kq_150) ⟨_, _, rfl, rfl, hI54, hFm54, (Or.inl ⟨by omega, hc55, hc56⟩)⟩
