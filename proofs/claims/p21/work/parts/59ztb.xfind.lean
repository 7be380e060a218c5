theorem h_38 {xs : Nat → Int} {Ln d : Nat} {T : List cK} {M : cM} (hT : TT T) (hI : Rng M) {rooms at_ : Int} {pr : Nat → Nat → Int} (hpr : ∀ a b : Nat, (a : Int) < rooms → (b : Int) < rooms → M 47 (8 * a + b) = pr a b) (hpb : ∀ a b : Nat, (a : Int) < rooms → (b : Int) < rooms → 0 ≤ pr a b ∧ pr a b ≤ 1059) {L : Nat → Int} (hL : pLq M 49 L) (hLb : ∀ i, 0 ≤ L i ∧ L i ≤ 1000000000) (p0 : 1 ≤ rooms ∧ rooms ≤ 8) (p1 : 0 ≤ at_ ∧ at_ ≤ 7) (p2 : at_ < rooms) : cC k_P xs Ln (d + 0) 38 [rf 46, (0, rooms), (0, at_)] (T, M) (qF T M 0 (fun v => 0 ≤ v ∧ v ≤ 7 ∧ (v = pOn pr L rooms.toNat at_))) := by
  show cP k_P xs Ln (d + 0) 38 0 [(0, rf 46), (1, (0, rooms)), (2, (0, at_))] [] (T, M) _
  refine s_iconst (v := 0) kx_38_0 (by decide) ?_
  refine s_istore_n kx_38_1 km_38_3 rfl ?_
  have key2 : ∀ n3 : Nat, ∀ (x3_1 : Int), (0 ≤ x3_1) → (x3_1 ≤ 8) → (owIF (pOg pr L at_.toNat) 1 (rooms - x3_1).toNat (x3_1).toNat = owIx (pOg pr L at_.toNat) 1 rooms.toNat) → (2147483647 - x3_1).toNat < n3 → cP k_P xs Ln (d + 0) 38 2 [(0, rf 46), (1, (0, rooms)), (2, (0, at_)), (3, (0, x3_1))] [] (T, M) (qF T M 0 (fun v => 0 ≤ v ∧ v ≤ 7 ∧ (v = pOn pr L rooms.toNat at_))) := by
    intro n3
    induction n3 with
    | zero => intro x3_1 i4 i5 i6 hm7; exact absurd hm7 (Nat.not_lt_zero _)
    | succ n3 ih8 =>
      intro x3_1 i4 i5 i6 hm7
      refine s_iload_n kx_38_2 rfl ?_
      refine s_iload_n kx_38_3 rfl ?_
      refine s_icmp_ge (t := 51) kx_38_4 (by decide) (fun hc9 => ?_) (fun hc9 => ?_)
      · refine s_iload_n kx_38_51 rfl ?_
        exact s_iret kx_38_52 (Or.inl kq_38) ⟨_, rfl, rfl, ⟨by omega, by omega, by have h9 := owIF_none i6 (by omega); unfold pOn; rw [← h9, if_pos rfl]⟩⟩
      · refine s_aload_n kx_38_7 rfl ?_
        refine r_getR (k := 46) (f := 0) (k2 := 47) kx_38_8 kp_38_9 (tk_46 hT) kf_4_0 (by decide) (rq_46_0 hI) ?_
        refine s_iload_n kx_38_11 rfl ?_
        refine s_bipush (v := 8) kx_38_12 (by decide) ?_
        refine r_mul kx_38_14 ⟨by omega, by omega⟩ ?_
        refine s_iload_n kx_38_15 rfl ?_
        refine r_add kx_38_16 ⟨by omega, by omega⟩ ?_
        refine r_aldU (k := 47) kx_38_17 (tk_47 hT) ⟨by omega, by omega⟩ (fun v10 v10e => ?_)
        have v10p : pr at_.toNat (x3_1).toNat = v10 := (hpr _ _ (by omega) (by omega)).symm.trans ((congrArg (M 47) (by omega)).trans v10e)
        have v10b := hpb at_.toNat (x3_1).toNat (by omega) (by omega)
        rw [v10p] at v10b
        refine s_istore kx_38_18 km_38_4 rfl ?_
        refine s_iload kx_38_20 rfl ?_
        refine s_if_le (t := 45) kx_38_22 (by decide) (fun hc11 => ?_) (fun hc11 => ?_)
        · refine r_iinc kx_38_45 rfl km_38_3 (by decide) ⟨by omega, by omega⟩ rfl ?_
          refine s_goto (t := 2) kx_38_48 (by decide) ?_
          exact cP.wk (lS1 rfl (lS1 rfl (lS1 rfl (lS1 rfl lS0)))) (ih8 (x3_1 + 1) (by omega) (by omega) (owIF_next i6 (by omega) (by omega) (by unfold pOg; rw [v10p]; rw [if_neg (by omega)]; decide)) (by omega))
        · refine s_iload kx_38_25 rfl ?_
          refine s_aload_n kx_38_27 rfl ?_
          refine r_getR (k := 46) (f := 2) (k2 := 49) kx_38_28 kp_38_18 (tk_46 hT) kf_4_2 (by decide) (rq_46_2 hI) ?_
          refine s_iload_n kx_38_31 rfl ?_
          refine r_aldU (k := 49) kx_38_32 (tk_49 hT) ⟨by omega, by omega⟩ (fun v12 v12e => ?_)
          have v12l : L (x3_1).toNat = v12 := (hL _ (by omega)).symm.trans v12e
          have v12b := hLb (x3_1).toNat
          rw [v12l] at v12b
          refine r_add kx_38_33 ⟨by omega, by omega⟩ ?_
          refine s_aload_n kx_38_34 rfl ?_
          refine r_getR (k := 46) (f := 2) (k2 := 49) kx_38_35 kp_38_18 (tk_46 hT) kf_4_2 (by decide) (rq_46_2 hI) ?_
          refine s_iload_n kx_38_38 rfl ?_
          refine r_aldU (k := 49) kx_38_39 (tk_49 hT) ⟨by omega, by omega⟩ (fun v13 v13e => ?_)
          have v13l : L (at_).toNat = v13 := (hL _ (by omega)).symm.trans v13e
          have v13b := hLb (at_).toNat
          rw [v13l] at v13b
          refine s_icmp_ne (t := 45) kx_38_40 (by decide) (fun hc14 => ?_) (fun hc14 => ?_)
          · refine r_iinc kx_38_45 rfl km_38_3 (by decide) ⟨by omega, by omega⟩ rfl ?_
            refine s_goto (t := 2) kx_38_48 (by decide) ?_
            exact cP.wk (lS1 rfl (lS1 rfl (lS1 rfl (lS1 rfl lS0)))) (ih8 (x3_1 + 1) (by omega) (by omega) (owIF_next i6 (by omega) (by omega) (by unfold pOg; rw [v10p, v12l, v13l]; rw [if_neg (by omega)]; decide)) (by omega))
          · refine s_iload_n kx_38_43 rfl ?_
            exact s_iret kx_38_44 (Or.inl kq_38) ⟨_, rfl, rfl, ⟨by omega, by omega, by have h9 := owIF_found i6 (by omega) (by omega) (by unfold pOg; rw [v10p, v12l, v13l]; exact if_pos (by omega)); unfold pOn; rw [← h9, if_neg (by omega)]⟩⟩
  exact cP.wk (lS1 rfl (lS1 rfl (lS1 rfl (lS1 rfl lS0)))) (key2 _ 0 (by omega) (by omega) (by rw [show rooms - 0 = rooms by omega]; rfl) (Nat.lt_succ_self _))
def hC_36_l47 : List (Nat × Nat) := [(46, 5), (50, 99999)]
def hC_36_m : List (Nat × Nat) := [(46, 4), (46, 5), (46, 6), (49, 99999), (50, 99999)]
theorem h_36 {xs : Nat → Int} {Ln d : Nat} {T : List cK} {M : cM} (hT : TT T) (hI : Rng M) {rooms from_ to : Int} {pr : Nat → Nat → Int} (hpr : ∀ a b : Nat, (a : Int) < rooms → (b : Int) < rooms → M 47 (8 * a + b) = pr a b) (hpb : ∀ a b : Nat, (a : Int) < rooms → (b : Int) < rooms → 0 ≤ pr a b ∧ pr a b ≤ 1059) (p0 : 1 ≤ rooms ∧ rooms ≤ 8) (p1 : 0 ≤ from_ ∧ from_ ≤ 7) (p2 : 0 ≤ to ∧ to ≤ 7) (p3 : from_ < rooms) (p4 : to < rooms) : cC k_P xs Ln (d + 2) 36 [rf 46, (0, rooms), (0, from_), (0, to)] (T, M) (qV T M hC_36_m (fun M1 => pFe pr (pIt 1000000000 pr to.toNat rooms.toNat (rooms.toNat - 1)) rooms.toNat to.toNat from_ M1)) := by
  show cP k_P xs Ln (d + 2) 36 0 [(0, rf 46), (1, (0, rooms)), (2, (0, from_)), (3, (0, to))] [] (T, M) _
  have hFm : Fr hC_36_m M M := Fr.refl
  refine s_aload_n kx_36_0 rfl ?_
  refine s_iconst (v := 0) kx_36_1 (by decide) ?_
  refine r_put (k := 46) (f := 5) kx_36_2 kp_36_28 (tk_46 hT) kf_4_5 rfl (by decide) (by decide) hI (ru_46_5 (by omega) (by omega)) (fun M1 hI1 u1 => ?_)
  have hFm1 := hFm.up u1 rfl
  refine s_aload_n kx_36_5 rfl ?_
  refine s_iload_n kx_36_6 rfl ?_
  refine r_put (k := 46) (f := 4) kx_36_7 kp_36_24 (tk_46 hT) kf_4_4 rfl (by decide) (by decide) hI1 (ru_46_4 (by omega) (by omega)) (fun M2 hI2 u2 => ?_)
  have hFm2 := hFm1.up u2 rfl
  refine s_aload_n kx_36_10 rfl ?_
  refine s_iload_n kx_36_11 rfl ?_
  refine s_iload_n kx_36_12 rfl ?_
  refine s_callV2 (k := 46) (s1 := 3) (s2 := 0) (as := [(0, to), (0, rooms)]) (rest := []) kx_36_13 kp_36_70 (Or.inl rfl) rfl (tk_46 hT) ki_37 kcl_37 rfl rfl (by decide) (h_37 (d := d) (rooms := rooms) (to := to) hT hI2 (fun a b ha hb => (((u2.2 47 _ (by omega)).trans (u1.2 47 _ (by omega)))).trans (hpr a b ha hb)) hpb (by omega) (by omega) (by omega)) (kV (fun M4 hI4 fr4 v3p => ?_))
  have hFm4 := hFm2.call fr4 rfl
  have hlq : pLq M4 49 (pIt 1000000000 pr to.toNat rooms.toNat (rooms.toNat - 1)) := v3p
  have hfx := pFx_it (R := 1000000000) (pr := pr) (to := to.toNat) (n := rooms.toNat) (by decide) (by omega) (by omega)
  refine s_aload_n kx_36_16 rfl ?_
  refine s_aload_n kx_36_17 rfl ?_
  refine r_getR (k := 46) (f := 2) (k2 := 49) kx_36_18 kp_36_18 (tk_46 hT) kf_4_2 (by decide) (rq_46_2 hI4) ?_
  refine s_iload_n kx_36_21 rfl ?_
  refine r_aldU (k := 49) kx_36_22 (tk_49 hT) ⟨by omega, by omega⟩ (fun v5 v5e => ?_)
  have v5l : (pIt 1000000000 pr to.toNat rooms.toNat (rooms.toNat - 1)) from_.toNat = v5 := (hlq _ (by omega)).symm.trans v5e
  have v5b := hfx.1 from_.toNat
  rw [v5l] at v5b
  refine s_ldc kx_36_23 kp_36_74 ?_
  refine s_icmp_ge (t := 37) kx_36_25 (by decide) (fun hc6 => ?_) (fun hc6 => ?_)
  · refine s_iconst (v := (-1)) kx_36_37 (by decide) ?_
    refine r_put (k := 46) (f := 6) kx_36_38 kp_36_31 (tk_46 hT) kf_4_6 rfl (by decide) (by decide) hI4 ru_46_6 (fun M7 hI7 u7 => ?_)
    have hFm7 := hFm4.up u7 rfl
    refine s_iload_n kx_36_41 rfl ?_
    refine s_istore kx_36_42 km_36_4 rfl ?_
    refine s_iconst (v := 0) kx_36_44 (by decide) ?_
    refine s_istore kx_36_45 km_36_5 rfl ?_
    have key11 : ∀ n12 : Nat, ∀ (x4_8 x5_9 : Int), ∀ M10 : cM, Rng M10 → Fr hC_36_m M M10 → Fr hC_36_l47 M7 M10 → (0 ≤ x4_8) → (x4_8 ≤ 7) → (0 ≤ x5_9) → (pFd pr (pIt 1000000000 pr to.toNat rooms.toNat (rooms.toNat - 1)) rooms.toNat to.toNat from_ M10 x5_9 x4_8) → (0 ≤ M10 46 5) → (M10 46 5 ≤ x5_9) → (pLq M10 49 (pIt 1000000000 pr to.toNat rooms.toNat (rooms.toNat - 1))) → (2147483647 - x5_9).toNat < n12 → cP k_P xs Ln (d + 2) 36 47 [(0, rf 46), (1, (0, rooms)), (3, (0, to)), (4, (0, x4_8)), (5, (0, x5_9))] [] (T, M10) (qV T M hC_36_m (fun M1 => pFe pr (pIt 1000000000 pr to.toNat rooms.toNat (rooms.toNat - 1)) rooms.toNat to.toNat from_ M1)) := by
      intro n12
      induction n12 with
      | zero => intro x4_8 x5_9 M10 hI10 hFm10 fl10 i13 i14 i15 i16 i17 i18 i19 hm20; exact absurd hm20 (Nat.not_lt_zero _)
      | succ n12 ih21 =>
        intro x4_8 x5_9 M10 hI10 hFm10 fl10 i13 i14 i15 i16 i17 i18 i19 hm20
        refine s_iload kx_36_47 rfl ?_
        refine s_iload_n kx_36_49 rfl ?_
        refine s_icmp_ge (t := 103) kx_36_50 (by decide) (fun hc22 => ?_) (fun hc22 => ?_)
        · exact s_vret kx_36_103 kq_36 ⟨_, rfl, rfl, hI10, hFm10, (pFd.end i16 hfx ⟨by omega, by omega⟩ (by first | exact Or.inr (Or.inr ((fl10 46 6 rfl).trans u7.1)) | exact Or.inl (by omega) | exact Or.inr (Or.inl (by omega)) | (exfalso; omega)))⟩
        · have hpd := i16.1.2.2.2.2.1
          refine s_iload kx_36_53 rfl ?_
          refine s_iload_n kx_36_55 rfl ?_
          refine s_icmp_eq (t := 103) kx_36_56 (by decide) (fun hc23 => ?_) (fun hc23 => ?_)
          · exact s_vret kx_36_103 kq_36 ⟨_, rfl, rfl, hI10, hFm10, (pFd.end i16 hfx ⟨by omega, by omega⟩ (by first | exact Or.inr (Or.inr ((fl10 46 6 rfl).trans u7.1)) | exact Or.inl (by omega) | exact Or.inr (Or.inl (by omega)) | (exfalso; omega)))⟩
          · refine s_aload_n kx_36_59 rfl ?_
            refine r_getK (k := 46) (f := 6) kx_36_60 kp_36_31 (tk_46 hT) kf_4_6 (fun _ => rfl) ((fl10 46 6 rfl).trans u7.1) ?_
            refine s_iconst (v := (-1)) kx_36_63 (by decide) ?_
            refine s_icmp_eq (t := 103) kx_36_64 (by decide) (fun hc24 => ?_) (fun hc24 => absurd hc24 (by decide))
            exact s_vret kx_36_103 kq_36 ⟨_, rfl, rfl, hI10, hFm10, (pFd.end i16 hfx ⟨by omega, by omega⟩ (by first | exact Or.inr (Or.inr ((fl10 46 6 rfl).trans u7.1)) | exact Or.inl (by omega) | exact Or.inr (Or.inl (by omega)) | (exfalso; omega)))⟩
    have hk25 : M7 46 5 = 0 := ((u7.2 46 5 (by omega)).trans ((fr4 46 5 rfl).trans ((u2.2 46 5 (by omega)).trans u1.1)))
    exact cP.wk (lS1 rfl (lS1 rfl (lS1 rfl (lS1 rfl (lS1 rfl lS0))))) (key11 _ from_ 0 M7 hI7 hFm7 Fr.refl (by omega) (by omega) (by omega) (pFd.z (((u7.2 46 4 (by omega)).trans ((fr4 46 4 rfl).trans u2.1))) (((u7.2 46 5 (by omega)).trans ((fr4 46 5 rfl).trans ((u2.2 46 5 (by omega)).trans u1.1)))) ((u7.1).trans (by rw [v5l]; exact (if_neg (by omega)).symm)) ⟨by omega, by omega⟩) (by omega) (by omega) (pLq.of hlq (fun i => u7.2 49 i (by omega))) (Nat.lt_succ_self _))
  · refine s_aload_n kx_36_28 rfl ?_
    refine r_getR (k := 46) (f := 2) (k2 := 49) kx_36_29 kp_36_18 (tk_46 hT) kf_4_2 (by decide) (rq_46_2 hI4) ?_
    refine s_iload_n kx_36_32 rfl ?_
    refine r_aldK (k := 49) kx_36_33 (tk_49 hT) ⟨by omega, by omega⟩ v5e ?_
    refine s_goto (t := 38) kx_36_34 (by decide) ?_
    refine r_put (k := 46) (f := 6) kx_36_38 kp_36_31 (tk_46 hT) kf_4_6 rfl (by decide) (by decide) hI4 ru_46_6 (fun M26 hI26 u26 => ?_)
    have hFm26 := hFm4.up u26 rfl
    refine s_iload_n kx_36_41 rfl ?_
    refine s_istore kx_36_42 km_36_4 rfl ?_
    refine s_iconst (v := 0) kx_36_44 (by decide) ?_
    refine s_istore kx_36_45 km_36_5 rfl ?_
    have key30 : ∀ n31 : Nat, ∀ (x4_27 x5_28 : Int), ∀ M29 : cM, Rng M29 → Fr hC_36_m M M29 → Fr hC_36_l47 M26 M29 → (0 ≤ x4_27) → (x4_27 ≤ 7) → (0 ≤ x5_28) → (pFd pr (pIt 1000000000 pr to.toNat rooms.toNat (rooms.toNat - 1)) rooms.toNat to.toNat from_ M29 x5_28 x4_27) → (0 ≤ M29 46 5) → (M29 46 5 ≤ x5_28) → (pLq M29 49 (pIt 1000000000 pr to.toNat rooms.toNat (rooms.toNat - 1))) → (2147483647 - x5_28).toNat < n31 → cP k_P xs Ln (d + 2) 36 47 [(0, rf 46), (1, (0, rooms)), (3, (0, to)), (4, (0, x4_27)), (5, (0, x5_28))] [] (T, M29) (qV T M hC_36_m (fun M1 => pFe pr (pIt 1000000000 pr to.toNat rooms.toNat (rooms.toNat - 1)) rooms.toNat to.toNat from_ M1)) := by
      intro n31
      induction n31 with
      | zero => intro x4_27 x5_28 M29 hI29 hFm29 fl29 i32 i33 i34 i35 i36 i37 i38 hm39; exact absurd hm39 (Nat.not_lt_zero _)
      | succ n31 ih40 =>
        intro x4_27 x5_28 M29 hI29 hFm29 fl29 i32 i33 i34 i35 i36 i37 i38 hm39
        refine s_iload kx_36_47 rfl ?_
        refine s_iload_n kx_36_49 rfl ?_
        refine s_icmp_ge (t := 103) kx_36_50 (by decide) (fun hc41 => ?_) (fun hc41 => ?_)
        · exact s_vret kx_36_103 kq_36 ⟨_, rfl, rfl, hI29, hFm29, (pFd.end i35 hfx ⟨by omega, by omega⟩ (by first | exact Or.inl (by omega) | exact Or.inr (Or.inl (by omega)) | (exfalso; omega)))⟩
        · have hpd := i35.1.2.2.2.2.1
          refine s_iload kx_36_53 rfl ?_
          refine s_iload_n kx_36_55 rfl ?_
          refine s_icmp_eq (t := 103) kx_36_56 (by decide) (fun hc42 => ?_) (fun hc42 => ?_)
          · exact s_vret kx_36_103 kq_36 ⟨_, rfl, rfl, hI29, hFm29, (pFd.end i35 hfx ⟨by omega, by omega⟩ (by first | exact Or.inl (by omega) | exact Or.inr (Or.inl (by omega)) | (exfalso; omega)))⟩
          · refine s_aload_n kx_36_59 rfl ?_
            refine r_getK (k := 46) (f := 6) kx_36_60 kp_36_31 (tk_46 hT) kf_4_6 (fun _ => rfl) ((fl29 46 6 rfl).trans u26.1) ?_
            refine s_iconst (v := (-1)) kx_36_63 (by decide) ?_
            refine s_icmp_eq (t := 103) kx_36_64 (by decide) (fun hc43 => absurd hc43 (by omega)) (fun hc43 => ?_)
            refine s_aload_n kx_36_67 rfl ?_
            refine s_iload_n kx_36_68 rfl ?_
            refine s_iload kx_36_69 rfl ?_
            refine s_callV2 (k := 46) (s1 := 3) (s2 := 0) (as := [(0, x4_27), (0, rooms)]) (rest := []) kx_36_71 kp_36_75 (Or.inl rfl) rfl (tk_46 hT) ki_38 kcl_38 rfl rfl (by decide) (h_38 (d := d + 1) (rooms := rooms) (at_ := x4_27) hT hI29 (fun a b ha hb => (((fl29 47 _ rfl).trans ((u26.2 47 _ (by omega)).trans ((fr4 47 _ rfl).trans ((u2.2 47 _ (by omega)).trans (u1.2 47 _ (by omega))))))).trans (hpr a b ha hb)) hpb i38 hfx.1 (by omega) (by omega) (by omega)) (kF (fun v44 v44p => ?_))
            refine s_istore kx_36_74 km_36_4 rfl ?_
            refine s_aload_n kx_36_76 rfl ?_
            refine r_getR (k := 46) (f := 3) (k2 := 50) kx_36_77 kp_36_21 (tk_46 hT) kf_4_3 (by decide) (rq_46_3 hI29) ?_
            refine s_aload_n kx_36_80 rfl ?_
            refine r_getI (k := 46) (f := 5) kx_36_81 kp_36_28 (tk_46 hT) kf_4_5 (fun _ => rfl) (rg_46_5 hI29) (fun v45 v45e v45a v45b => ?_)
            refine s_iload kx_36_84 rfl ?_
            refine r_ast (k := 50) kx_36_86 (tk_50 hT) ⟨by omega, by omega⟩ hI29 (ru_50 (by omega) (by omega)) (fun M46 hI46 u46 => ?_)
            have hFm46 := hFm29.up u46 rfl
            have hFl4746 := fl29.up u46 rfl
            refine s_aload_n kx_36_87 rfl ?_
            refine s_dup kx_36_88 rfl ?_
            refine r_getK (k := 46) (f := 5) kx_36_89 kp_36_28 (tk_46 hT) kf_4_5 (fun _ => rfl) ((u46.2 46 5 (by omega)).trans v45e) ?_
            refine s_iconst (v := 1) kx_36_92 (by decide) ?_
            refine r_add kx_36_93 ⟨by omega, by omega⟩ ?_
            refine r_put (k := 46) (f := 5) kx_36_94 kp_36_28 (tk_46 hT) kf_4_5 rfl (by decide) (by decide) hI46 (ru_46_5 (by omega) (by omega)) (fun M47 hI47 u47 => ?_)
            have hFm47 := hFm46.up u47 rfl
            have hFl4747 := hFl4746.up u47 rfl
            refine r_iinc kx_36_97 rfl km_36_5 (by decide) ⟨by omega, by omega⟩ rfl ?_
            refine s_goto (t := 47) kx_36_100 (by decide) ?_
            have hk48 : M47 46 5 = (v45 + 1) := u47.1
            exact cP.wk (lS1 rfl (lS1 rfl (lS1 rfl (lS1 rfl (lS1 rfl lS0))))) (ih40 v44 (x5_28 + 1) M47 hI47 hFm47 hFl4747 (by omega) (by omega) (by omega) (pFd.nx i35 hfx (by rw [v5l]; omega) (by omega) ⟨by omega, by omega⟩ u46 (by have h8 := i35.1.2.1; omega) u47 (by have h8 := i35.1.2.1; omega) v44p.2.2) (by omega) (by omega) (pLq.of (pLq.of i38 (fun i => u46.2 49 i (by omega))) (fun i => u47.2 49 i (by omega))) (by omega))
    have hk49 : M26 46 5 = 0 := ((u26.2 46 5 (by omega)).trans ((fr4 46 5 rfl).trans ((u2.2 46 5 (by omega)).trans u1.1)))
    exact cP.wk (lS1 rfl (lS1 rfl (lS1 rfl (lS1 rfl (lS1 rfl lS0))))) (key30 _ from_ 0 M26 hI26 hFm26 Fr.refl (by omega) (by omega) (by omega) (pFd.z (((u26.2 46 4 (by omega)).trans ((fr4 46 4 rfl).trans u2.1))) (((u26.2 46 5 (by omega)).trans ((fr4 46 5 rfl).trans ((u2.2 46 5 (by omega)).trans u1.1)))) ((u26.1).trans (by rw [v5l]; exact (if_pos (by omega)).symm)) ⟨by omega, by omega⟩) (by omega) (by omega) (pLq.of hlq (fun i => u26.2 49 i (by omega))) (Nat.lt_succ_self _))
