/-! the other town stays as it is -/
def KT (u : Nat) (W M : cM) : Prop := (∀ k f, k ≤ 10 → M (u + k) f = W (u + k) f) ∧ (∀ i, fCd M (u + 11) i = fCd W (u + 11) i) ∧ ∀ i, fCd M (u + 14) i = fCd W (u + 14) i
theorem KT.refl {u : Nat} {M : cM} : KT u M M := ⟨fun _ _ _ => rfl, fun _ => rfl, fun _ => rfl⟩
theorem KT.up {u k g : Nat} {v : Int} {W M M1 : cM} (h : KT u W M) (q : Up M k g v M1) (hk : (k < u ∨ u + 16 < k) ∧ k < 114) : KT u W M1 := ⟨fun a f ha => (q.2 (u + a) f (by omega)).trans (h.1 a f ha), fun i => (fCd_eq (q.2 _ 1 (by omega)) (q.2 _ 2 (by omega)) (fun i => q.2 _ i (by omega)) (fun k i hk => q.2 k i (by omega)) i).trans (h.2.1 i), fun i => (fCd_eq (q.2 _ 1 (by omega)) (q.2 _ 2 (by omega)) (fun i => q.2 _ i (by omega)) (fun k i hk => q.2 k i (by omega)) i).trans (h.2.2 i)⟩
def ktf (S : List (Nat × Nat)) : Bool := (S.all fun p => !(decide (8 ≤ p.1) && decide (p.1 ≤ 18)) && !(decide (25 ≤ p.1) && decide (p.1 ≤ 35))) && frk S
theorem ktf_k {S : List (Nat × Nat)} (hs : ktf S = true) : frk S = true := by
  unfold ktf at hs
  rw [Bool.and_eq_true] at hs
  exact hs.2
theorem ktf_in {S : List (Nat × Nat)} (hs : ktf S = true) {k f : Nat} (hk : (8 ≤ k ∧ k ≤ 18) ∨ (25 ≤ k ∧ k ≤ 35)) : c_in S k f = false := by
  unfold ktf at hs
  rw [Bool.and_eq_true] at hs
  refine nin (by omega) (List.all_eq_true.mpr fun p hp => ?_) f
  have := List.all_eq_true.mp hs.1 p hp
  simp at this
  simp
  omega
theorem KT.fr {S : List (Nat × Nat)} {t u : Nat} {W M M1 : cM} (h : KT u W M) (g : Fr S M M1) (ht : t = 8 ∨ t = 25) (hux : u = 8 ∧ t = 25 ∨ u = 25 ∧ t = 8) (hs : ktf S = true) : KT u W M1 := ⟨fun a f ha => (g (u + a) f (ktf_in hs (by omega))).trans (h.1 a f ha), fun i => (fCd_fr (fF_slow (by omega)) g (ktf_k hs) i).trans (h.2.1 i), fun i => (fCd_fr (fF_stands (by omega)) g (ktf_k hs) i).trans (h.2.2 i)⟩
theorem KT.frA {k t u : Nat} {W M M1 : cM} (h : KT u W M) (g : Fr [(k, 99999)] M M1) (hux : u = 8 ∧ t = 25 ∨ u = 25 ∧ t = 8) (hk : (k < u ∨ u + 16 < k) ∧ k < 114) : KT u W M1 := by
  have e : ∀ c f, c < 114 → c ≠ k → M1 c f = M c f := fun c f hc hne => g c f (nin hc (by simp; omega) f)
  have e4 : ∀ c f, 114 ≤ c → M1 c f = M c f := fun c f hc => g c f (nin_far hc (by simp; omega) f)
  exact ⟨fun a f ha => (e _ f (by omega) (by omega)).trans (h.1 a f ha), fun i => (fCd_eq (e _ 1 (by omega) (by omega)) (e _ 2 (by omega) (by omega)) (fun i => e _ i (by omega) (by omega)) e4 i).trans (h.2.1 i), fun i => (fCd_eq (e _ 1 (by omega) (by omega)) (e _ 2 (by omega) (by omega)) (fun i => e _ i (by omega) (by omega)) e4 i).trans (h.2.2 i)⟩
/-! the class's readers of statements answer what is told -/
section IXS
variable {g : Nat → Int} {v many i r : Int}
theorem owIF_next (h : owIF g v (many - i).toNat i.toNat = r) (h0 : 0 ≤ i) (hm : i < many) (hg : g i.toNat ≠ v) : owIF g v (many - (i + 1)).toNat (i + 1).toNat = r := by
  rw [show (many - i).toNat = (many - (i + 1)).toNat + 1 by omega] at h
  unfold owIF at h
  rw [if_neg hg] at h
  rw [show (i + 1).toNat = i.toNat + 1 by omega]
  exact h
theorem owIF_none (h : owIF g v (many - i).toNat i.toNat = r) (hm : many ≤ i) : -1 = r := by
  rw [show (many - i).toNat = 0 by omega] at h
  exact h
theorem owIF_found (h : owIF g v (many - i).toNat i.toNat = r) (h0 : 0 ≤ i) (hm : i < many) (hg : g i.toNat = v) : i = r := by
  rw [show (many - i).toNat = (many - (i + 1)).toNat + 1 by omega] at h
  unfold owIF at h
  rw [if_pos hg] at h
  omega
end IXS
theorem owLd_next {D : cM} {w r i x y : Int} (h : x = w + owLd D r i.toNat) (h0 : 0 ≤ i) (hy : (D 10 i.toNat = r ∧ y = D 8 i.toNat) ∨ (D 10 i.toNat ≠ r ∧ y = 0)) : x + y = w + owLd D r (i + 1).toNat := by
  rw [show (i + 1).toNat = i.toNat + 1 by omega]
  show x + y = w + (owLd D r i.toNat + (if D 10 i.toNat = r then D 8 i.toNat else 0))
  split <;> omega
theorem f_110 {xs : Nat → Int} {Ln d : Nat} {T : List cK} {M : cM} (hT : TT T) (hI : Rng M) {many name : Int} {k n : Nat} (hA : T[k]? = some (.inl (0, n))) (hn : n < 2147483648) (p0 : 0 ≤ many ∧ many ≤ n) : cC k_P xs Ln (d + 0) 110 [rf k, (0, many), (0, name)] (T, M) (qF T M 0 (fun v => v = owIx (M k) name many.toNat)) := by
  show cP k_P xs Ln (d + 0) 110 0 [(0, rf k), (1, (0, many)), (2, (0, name))] [] (T, M) _
  refine s_iconst (v := 0) kx_110_0 (by decide) ?_
  refine s_istore_n kx_110_1 km_110_3 rfl ?_
  have key2 : ∀ n3 : Nat, ∀ (x3_1 : Int), (0 ≤ x3_1) → (0 ≤ x3_1) → (owIF (M k) name (many - x3_1).toNat (x3_1).toNat = owIx (M k) name many.toNat) → (2147483647 - x3_1).toNat < n3 → cP k_P xs Ln (d + 0) 110 2 [(0, rf k), (1, (0, many)), (2, (0, name)), (3, (0, x3_1))] [] (T, M) (qF T M 0 (fun v => v = owIx (M k) name many.toNat)) := by
    intro n3
    induction n3 with
    | zero => intro x3_1 i4 i5 i6 hm7; exact absurd hm7 (Nat.not_lt_zero _)
    | succ n3 ih8 =>
      intro x3_1 i4 i5 i6 hm7
      refine s_iload_n kx_110_2 rfl ?_
      refine s_iload_n kx_110_3 rfl ?_
      refine s_icmp_ge (t := 28) kx_110_4 (by decide) (fun hc9 => ?_) (fun hc9 => ?_)
      · refine s_iconst (v := (-1)) kx_110_28 (by decide) ?_
        exact s_iret kx_110_29 (Or.inl kq_110) ⟨_, rfl, rfl, (owIF_none i6 (by omega))⟩
      · refine s_iload_n kx_110_7 rfl ?_
        refine s_aload_n kx_110_8 rfl ?_
        refine r_alen (k := k) kx_110_9 hA ⟨by decide, by omega⟩ ?_
        refine s_icmp_ge (t := 28) kx_110_10 (by decide) (fun hc10 => ?_) (fun hc10 => ?_)
        · refine s_iconst (v := (-1)) kx_110_28 (by decide) ?_
          exact s_iret kx_110_29 (Or.inl kq_110) ⟨_, rfl, rfl, (owIF_none i6 (by omega))⟩
        · refine s_aload_n kx_110_13 rfl ?_
          refine s_iload_n kx_110_14 rfl ?_
          refine r_aldU (k := k) kx_110_15 hA ⟨by omega, by omega⟩ (fun v11 v11e => ?_)
          refine s_iload_n kx_110_16 rfl ?_
          refine s_icmp_ne (t := 22) kx_110_17 (by decide) (fun hc12 => ?_) (fun hc12 => ?_)
          · refine r_iinc kx_110_22 rfl km_110_3 (by decide) ⟨by omega, by omega⟩ rfl ?_
            refine s_goto (t := 2) kx_110_25 (by decide) ?_
            exact cP.wk (lS1 rfl (lS1 rfl (lS1 rfl (lS1 rfl lS0)))) (ih8 (x3_1 + 1) (by omega) (by omega) (owIF_next i6 (by omega) (by omega) (by rw [v11e]; omega)) (by omega))
          · refine s_iload_n kx_110_20 rfl ?_
            exact s_iret kx_110_21 (Or.inl kq_110) ⟨_, rfl, rfl, (owIF_found i6 (by omega) (by omega) (by rw [v11e]; omega))⟩
  exact cP.wk (lS1 rfl (lS1 rfl (lS1 rfl (lS1 rfl lS0)))) (key2 _ 0 (by omega) (by omega) (by rw [Int.sub_zero]; rfl) (Nat.lt_succ_self _))
theorem f_108 {xs : Nat → Int} {Ln d : Nat} {T : List cK} {M : cM} (hT : TT T) (hI : Rng M) {t : Nat} (ht : t = 8 ∨ t = 25) {name : Int} {D : cM} (hD : owD M t = D) (hW : DW D) : cC k_P xs Ln (d + 1) 108 [rf t, (0, name)] (T, M) (qF T M 0 (fun v => v = owIx (D 1) name (D 0 0).toNat)) := by
  show cP k_P xs Ln (d + 1) 108 0 [(0, rf t), (1, (0, name))] [] (T, M) _
  have hw := hW.1
  have hw2 := hW.2.1
  have hw3 := hW.2.2.1
  have hw4 := hW.2.2.2.1
  refine s_aload_n kx_108_0 rfl ?_
  refine r_getR (k := t) (f := 4) (k2 := (t + 1)) kx_108_1 kp_108_24 (tkt_0 hT ht) kf_9_4 (by decide) (rqt_4 hI ht) ?_
  refine s_aload_n kx_108_4 rfl ?_
  refine r_getI (k := t) (f := 0) kx_108_5 kp_108_9 (tkt_0 hT ht) kf_9_0 (fun _ => rfl) (rgt_0_0 hI ht) (fun v1 v1e v1a v1b => ?_)
  have v1d : D 0 0 = v1 := (owD_at (k := 0) hD (by decide)).symm.trans v1e
  refine s_iload_n kx_108_8 rfl ?_
  refine s_callS2 (s1 := 3) (s2 := 0) (as := [(0, name), (0, v1), rf (t + 1)]) (rest := []) kx_108_9 kp_108_74 rfl kcl_110 rfl rfl (by decide) (f_110 (d := d) (many := v1) (name := name) hT hI (k := (t + 1)) (n := 8) (tkt_1 hT ht) (by decide) (by omega)) (kF (fun v2 v2p => ?_))
  exact s_iret kx_108_12 (Or.inl kq_108) ⟨_, rfl, rfl, (by rw [v2p, show M (t + 1) = D 1 from funext fun i => owD_at (k := 1) hD (by decide)]; congr 2; omega)⟩
theorem f_109 {xs : Nat → Int} {Ln d : Nat} {T : List cK} {M : cM} (hT : TT T) (hI : Rng M) {t : Nat} (ht : t = 8 ∨ t = 25) {name : Int} {D : cM} (hD : owD M t = D) (hW : DW D) : cC k_P xs Ln (d + 1) 109 [rf t, (0, name)] (T, M) (qF T M 0 (fun v => v = owIx (D 5) name (D 0 1).toNat)) := by
  show cP k_P xs Ln (d + 1) 109 0 [(0, rf t), (1, (0, name))] [] (T, M) _
  have hw := hW.1
  have hw2 := hW.2.1
  have hw3 := hW.2.2.1
  have hw4 := hW.2.2.2.1
  refine s_aload_n kx_109_0 rfl ?_
  refine r_getR (k := t) (f := 8) (k2 := (t + 5)) kx_109_1 kp_109_37 (tkt_0 hT ht) kf_9_8 (by decide) (rqt_8 hI ht) ?_
  refine s_aload_n kx_109_4 rfl ?_
  refine r_getI (k := t) (f := 1) kx_109_5 kp_109_15 (tkt_0 hT ht) kf_9_1 (fun _ => rfl) (rgt_0_1 hI ht) (fun v1 v1e v1a v1b => ?_)
  have v1d : D 0 1 = v1 := (owD_at (k := 0) hD (by decide)).symm.trans v1e
  refine s_iload_n kx_109_8 rfl ?_
  refine s_callS2 (s1 := 3) (s2 := 0) (as := [(0, name), (0, v1), rf (t + 5)]) (rest := []) kx_109_9 kp_109_74 rfl kcl_110 rfl rfl (by decide) (f_110 (d := d) (many := v1) (name := name) hT hI (k := (t + 5)) (n := 8) (tkt_5 hT ht) (by decide) (by omega)) (kF (fun v2 v2p => ?_))
  exact s_iret kx_109_12 (Or.inl kq_109) ⟨_, rfl, rfl, (by rw [v2p, show M (t + 5) = D 5 from funext fun i => owD_at (k := 5) hD (by decide)]; congr 2; omega)⟩
def gS_111_m : List (Nat × Nat) := [(10, 99999), (11, 99999), (25, 0), (26, 99999), (27, 99999), (28, 99999), (8, 0), (9, 99999)]
theorem f_111 {xs : Nat → Int} {Ln d : Nat} {T : List cK} {M : cM} (hT : TT T) (hI : Rng M) {t : Nat} (ht : t = 8 ∨ t = 25) {name door floor : Int} {D : cM} (hD : owD M t = D) (hW : DW D) {uX : Nat} {WX : cM} (hux : uX = 8 ∧ t = 25 ∨ uX = 25 ∧ t = 8) (hKX : KT uX WX M) (p0 : D 0 0 < 8) : cC k_P xs Ln (d + 0) 111 [rf t, (0, name), (0, door), (0, floor)] (T, M) (qV T M gS_111_m (fun M1 => (owD M1 t = owAR D name door floor) ∧ KT uX WX M1)) := by
  show cP k_P xs Ln (d + 0) 111 0 [(0, rf t), (1, (0, name)), (2, (0, door)), (3, (0, floor))] [] (T, M) _
  have hFm : Fr gS_111_m M M := Fr.refl
  have hw := hW.1
  have hw2 := hW.2.1
  have hw3 := hW.2.2.1
  have hw4 := hW.2.2.2.1
  refine s_aload_n kx_111_0 rfl ?_
  refine r_getI (k := t) (f := 0) kx_111_1 kp_111_9 (tkt_0 hT ht) kf_9_0 (fun _ => rfl) (rgt_0_0 hI ht) (fun v1 v1e v1a v1b => ?_)
  have v1d : D 0 0 = v1 := (owD_at (k := 0) hD (by decide)).symm.trans v1e
  refine s_bipush (v := 8) kx_111_4 (by decide) ?_
  refine s_icmp_ge (t := 49) kx_111_6 (by decide) (fun hc2 => ?_) (fun hc2 => ?_)
  · exfalso
    omega
  · refine s_aload_n kx_111_9 rfl ?_
    refine r_getR (k := t) (f := 4) (k2 := (t + 1)) kx_111_10 kp_111_24 (tkt_0 hT ht) kf_9_4 (by decide) (rqt_4 hI ht) ?_
    refine s_aload_n kx_111_13 rfl ?_
    refine r_getK (k := t) (f := 0) kx_111_14 kp_111_9 (tkt_0 hT ht) kf_9_0 (fun _ => rfl) v1e ?_
    refine s_iload_n kx_111_17 rfl ?_
    refine r_ast (k := (t + 1)) kx_111_18 (tkt_1 hT ht) ⟨by omega, by omega⟩ hI (rut_1 ht) (fun M3 hI3 u3 => ?_)
    have hFm3 := hFm.up u3 (by rcases ht with rfl | rfl <;> rfl)
    have hkx4 := (KT.up hKX u3 (by omega))
    refine s_aload_n kx_111_19 rfl ?_
    refine r_getR (k := t) (f := 5) (k2 := (t + 2)) kx_111_20 kp_111_28 (tkt_0 hT ht) kf_9_5 (by decide) (rqt_5 hI3 ht) ?_
    refine s_aload_n kx_111_23 rfl ?_
    refine r_getK (k := t) (f := 0) kx_111_24 kp_111_9 (tkt_0 hT ht) kf_9_0 (fun _ => rfl) ((u3.2 t 0 (by omega)).trans v1e) ?_
    refine s_iload_n kx_111_27 rfl ?_
    refine r_ast (k := (t + 2)) kx_111_28 (tkt_2 hT ht) ⟨by omega, by omega⟩ hI3 (rut_2 ht) (fun M5 hI5 u5 => ?_)
    have hFm5 := hFm3.up u5 (by rcases ht with rfl | rfl <;> rfl)
    have hkx6 := (KT.up hkx4 u5 (by omega))
    refine s_aload_n kx_111_29 rfl ?_
    refine r_getR (k := t) (f := 6) (k2 := (t + 3)) kx_111_30 kp_111_31 (tkt_0 hT ht) kf_9_6 (by decide) (rqt_6 hI5 ht) ?_
    refine s_aload_n kx_111_33 rfl ?_
    refine r_getK (k := t) (f := 0) kx_111_34 kp_111_9 (tkt_0 hT ht) kf_9_0 (fun _ => rfl) ((u5.2 t 0 (by omega)).trans ((u3.2 t 0 (by omega)).trans v1e)) ?_
    refine s_iload_n kx_111_37 rfl ?_
    refine r_ast (k := (t + 3)) kx_111_38 (tkt_3 hT ht) ⟨by omega, by omega⟩ hI5 (rut_3 ht) (fun M7 hI7 u7 => ?_)
    have hFm7 := hFm5.up u7 (by rcases ht with rfl | rfl <;> rfl)
    have hkx8 := (KT.up hkx6 u7 (by omega))
    refine s_aload_n kx_111_39 rfl ?_
    refine s_dup kx_111_40 rfl ?_
    refine r_getK (k := t) (f := 0) kx_111_41 kp_111_9 (tkt_0 hT ht) kf_9_0 (fun _ => rfl) ((u7.2 t 0 (by omega)).trans ((u5.2 t 0 (by omega)).trans ((u3.2 t 0 (by omega)).trans v1e))) ?_
    refine s_iconst (v := 1) kx_111_44 (by decide) ?_
    refine r_add kx_111_45 ⟨by omega, by omega⟩ ?_
    refine r_put (k := t) (f := 0) kx_111_46 kp_111_9 (tkt_0 hT ht) kf_9_0 rfl (by decide) (by decide) hI7 (rut_0_0 ht (by omega) (by omega)) (fun M9 hI9 u9 => ?_)
    have hFm9 := hFm7.up u9 (by rcases ht with rfl | rfl <;> rfl)
    have hkx10 := (KT.up hkx8 u9 (by omega))
    exact s_vret kx_111_49 kq_111 ⟨_, rfl, rfl, hI9, hFm9, ⟨(by show owD M9 t = _; rw [(owD_up (k := 0) (owD_up (k := 3) (owD_up (k := 2) (owD_up (k := 1) hD u3 (by decide) ht) u5 (by decide) ht) u7 (by decide) ht) u9 (by decide) ht)]; unfold owAR; rw [show D 0 0 = v1 by omega]), hkx10⟩⟩
def gS_113_m : List (Nat × Nat) := [(13, 99999), (14, 99999), (15, 99999), (16, 99999), (17, 99999), (18, 99999), (25, 1), (30, 99999), (31, 99999), (32, 99999), (33, 99999), (34, 99999), (35, 99999), (8, 1)]
theorem f_113 {xs : Nat → Int} {Ln d : Nat} {T : List cK} {M : cM} (hT : TT T) (hI : Rng M) {t : Nat} (ht : t = 8 ∨ t = 25) {name strong weight width home : Int} {D : cM} (hD : owD M t = D) (hW : DW D) {uX : Nat} {WX : cM} (hux : uX = 8 ∧ t = 25 ∨ uX = 25 ∧ t = 8) (hKX : KT uX WX M) (p0 : 0 ≤ home ∧ home ≤ 7) (p1 : D 0 1 < 8) : cC k_P xs Ln (d + 0) 113 [rf t, (0, name), (0, strong), (0, weight), (0, width), (0, home)] (T, M) (qV T M gS_113_m (fun M1 => (owD M1 t = owAP D name strong weight width home) ∧ KT uX WX M1)) := by
  show cP k_P xs Ln (d + 0) 113 0 [(0, rf t), (1, (0, name)), (2, (0, strong)), (3, (0, weight)), (4, (0, width)), (5, (0, home))] [] (T, M) _
  have hFm : Fr gS_113_m M M := Fr.refl
  have hw := hW.1
  have hw2 := hW.2.1
  have hw3 := hW.2.2.1
  have hw4 := hW.2.2.2.1
  refine s_aload_n kx_113_0 rfl ?_
  refine r_getI (k := t) (f := 1) kx_113_1 kp_113_15 (tkt_0 hT ht) kf_9_1 (fun _ => rfl) (rgt_0_1 hI ht) (fun v1 v1e v1a v1b => ?_)
  have v1d : D 0 1 = v1 := (owD_at (k := 0) hD (by decide)).symm.trans v1e
  refine s_bipush (v := 8) kx_113_4 (by decide) ?_
  refine s_icmp_ge (t := 81) kx_113_6 (by decide) (fun hc2 => ?_) (fun hc2 => ?_)
  · exfalso
    omega
  · refine s_aload_n kx_113_9 rfl ?_
    refine r_getR (k := t) (f := 8) (k2 := (t + 5)) kx_113_10 kp_113_37 (tkt_0 hT ht) kf_9_8 (by decide) (rqt_8 hI ht) ?_
    refine s_aload_n kx_113_13 rfl ?_
    refine r_getK (k := t) (f := 1) kx_113_14 kp_113_15 (tkt_0 hT ht) kf_9_1 (fun _ => rfl) v1e ?_
    refine s_iload_n kx_113_17 rfl ?_
    refine r_ast (k := (t + 5)) kx_113_18 (tkt_5 hT ht) ⟨by omega, by omega⟩ hI (rut_5 ht) (fun M3 hI3 u3 => ?_)
    have hFm3 := hFm.up u3 (by rcases ht with rfl | rfl <;> rfl)
    have hkx4 := (KT.up hKX u3 (by omega))
    refine s_aload_n kx_113_19 rfl ?_
    refine r_getR (k := t) (f := 9) (k2 := (t + 6)) kx_113_20 kp_113_40 (tkt_0 hT ht) kf_9_9 (by decide) (rqt_9 hI3 ht) ?_
    refine s_aload_n kx_113_23 rfl ?_
    refine r_getK (k := t) (f := 1) kx_113_24 kp_113_15 (tkt_0 hT ht) kf_9_1 (fun _ => rfl) ((u3.2 t 1 (by omega)).trans v1e) ?_
    refine s_iload_n kx_113_27 rfl ?_
    refine r_ast (k := (t + 6)) kx_113_28 (tkt_6 hT ht) ⟨by omega, by omega⟩ hI3 (rut_6 ht) (fun M5 hI5 u5 => ?_)
    have hFm5 := hFm3.up u5 (by rcases ht with rfl | rfl <;> rfl)
    have hkx6 := (KT.up hkx4 u5 (by omega))
    refine s_aload_n kx_113_29 rfl ?_
    refine r_getR (k := t) (f := 10) (k2 := (t + 7)) kx_113_30 kp_113_43 (tkt_0 hT ht) kf_9_10 (by decide) (rqt_10 hI5 ht) ?_
    refine s_aload_n kx_113_33 rfl ?_
    refine r_getK (k := t) (f := 1) kx_113_34 kp_113_15 (tkt_0 hT ht) kf_9_1 (fun _ => rfl) ((u5.2 t 1 (by omega)).trans ((u3.2 t 1 (by omega)).trans v1e)) ?_
    refine s_iload_n kx_113_37 rfl ?_
    refine r_ast (k := (t + 7)) kx_113_38 (tkt_7 hT ht) ⟨by omega, by omega⟩ hI5 (rut_7 ht) (fun M7 hI7 u7 => ?_)
    have hFm7 := hFm5.up u7 (by rcases ht with rfl | rfl <;> rfl)
    have hkx8 := (KT.up hkx6 u7 (by omega))
    refine s_aload_n kx_113_39 rfl ?_
    refine r_getR (k := t) (f := 11) (k2 := (t + 8)) kx_113_40 kp_113_46 (tkt_0 hT ht) kf_9_11 (by decide) (rqt_11 hI7 ht) ?_
    refine s_aload_n kx_113_43 rfl ?_
    refine r_getK (k := t) (f := 1) kx_113_44 kp_113_15 (tkt_0 hT ht) kf_9_1 (fun _ => rfl) ((u7.2 t 1 (by omega)).trans ((u5.2 t 1 (by omega)).trans ((u3.2 t 1 (by omega)).trans v1e))) ?_
    refine s_iload kx_113_47 rfl ?_
    refine r_ast (k := (t + 8)) kx_113_49 (tkt_8 hT ht) ⟨by omega, by omega⟩ hI7 (rut_8 ht) (fun M9 hI9 u9 => ?_)
    have hFm9 := hFm7.up u9 (by rcases ht with rfl | rfl <;> rfl)
    have hkx10 := (KT.up hkx8 u9 (by omega))
    refine s_aload_n kx_113_50 rfl ?_
    refine r_getR (k := t) (f := 13) (k2 := (t + 10)) kx_113_51 kp_113_52 (tkt_0 hT ht) kf_9_13 (by decide) (rqt_13 hI9 ht) ?_
    refine s_aload_n kx_113_54 rfl ?_
    refine r_getK (k := t) (f := 1) kx_113_55 kp_113_15 (tkt_0 hT ht) kf_9_1 (fun _ => rfl) ((u9.2 t 1 (by omega)).trans ((u7.2 t 1 (by omega)).trans ((u5.2 t 1 (by omega)).trans ((u3.2 t 1 (by omega)).trans v1e)))) ?_
    refine s_iload kx_113_58 rfl ?_
    refine r_ast (k := (t + 10)) kx_113_60 (tkt_10 hT ht) ⟨by omega, by omega⟩ hI9 (rut_10 ht (by omega) (by omega)) (fun M11 hI11 u11 => ?_)
    have hFm11 := hFm9.up u11 (by rcases ht with rfl | rfl <;> rfl)
    have hkx12 := (KT.up hkx10 u11 (by omega))
    refine s_aload_n kx_113_61 rfl ?_
    refine r_getR (k := t) (f := 12) (k2 := (t + 9)) kx_113_62 kp_113_49 (tkt_0 hT ht) kf_9_12 (by decide) (rqt_12 hI11 ht) ?_
    refine s_aload_n kx_113_65 rfl ?_
    refine r_getK (k := t) (f := 1) kx_113_66 kp_113_15 (tkt_0 hT ht) kf_9_1 (fun _ => rfl) ((u11.2 t 1 (by omega)).trans ((u9.2 t 1 (by omega)).trans ((u7.2 t 1 (by omega)).trans ((u5.2 t 1 (by omega)).trans ((u3.2 t 1 (by omega)).trans v1e))))) ?_
    refine s_iconst (v := (-1)) kx_113_69 (by decide) ?_
    refine r_ast (k := (t + 9)) kx_113_70 (tkt_9 hT ht) ⟨by omega, by omega⟩ hI11 (rut_9 ht) (fun M13 hI13 u13 => ?_)
    have hFm13 := hFm11.up u13 (by rcases ht with rfl | rfl <;> rfl)
    have hkx14 := (KT.up hkx12 u13 (by omega))
    refine s_aload_n kx_113_71 rfl ?_
    refine s_dup kx_113_72 rfl ?_
    refine r_getK (k := t) (f := 1) kx_113_73 kp_113_15 (tkt_0 hT ht) kf_9_1 (fun _ => rfl) ((u13.2 t 1 (by omega)).trans ((u11.2 t 1 (by omega)).trans ((u9.2 t 1 (by omega)).trans ((u7.2 t 1 (by omega)).trans ((u5.2 t 1 (by omega)).trans ((u3.2 t 1 (by omega)).trans v1e)))))) ?_
    refine s_iconst (v := 1) kx_113_76 (by decide) ?_
    refine r_add kx_113_77 ⟨by omega, by omega⟩ ?_
    refine r_put (k := t) (f := 1) kx_113_78 kp_113_15 (tkt_0 hT ht) kf_9_1 rfl (by decide) (by decide) hI13 (rut_0_1 ht (by omega) (by omega)) (fun M15 hI15 u15 => ?_)
    have hFm15 := hFm13.up u15 (by rcases ht with rfl | rfl <;> rfl)
    have hkx16 := (KT.up hkx14 u15 (by omega))
    exact s_vret kx_113_81 kq_113 ⟨_, rfl, rfl, hI15, hFm15, ⟨(by show owD M15 t = _; rw [(owD_up (k := 0) (owD_up (k := 9) (owD_up (k := 10) (owD_up (k := 8) (owD_up (k := 7) (owD_up (k := 6) (owD_up (k := 5) hD u3 (by decide) ht) u5 (by decide) ht) u7 (by decide) ht) u9 (by decide) ht) u11 (by decide) ht) u13 (by decide) ht) u15 (by decide) ht)]; unfold owAP; rw [show D 0 1 = v1 by omega]), hkx16⟩⟩
def gS_112_m : List (Nat × Nat) := [(12, 99999), (29, 99999)]
theorem f_112 {xs : Nat → Int} {Ln d : Nat} {T : List cK} {M : cM} (hT : TT T) (hI : Rng M) {t : Nat} (ht : t = 8 ∨ t = 25) {from_ to mins : Int} {D : cM} (hD : owD M t = D) (hW : DW D) {uX : Nat} {WX : cM} (hux : uX = 8 ∧ t = 25 ∨ uX = 25 ∧ t = 8) (hKX : KT uX WX M) (p0 : 0 ≤ from_ ∧ from_ < D 0 0) (p1 : 0 ≤ to ∧ to < D 0 0) : cC k_P xs Ln (d + 1) 112 [rf t, (0, from_), (0, to), (0, mins)] (T, M) (qV T M gS_112_m (fun M1 => (owD M1 t = owAW D from_ to mins) ∧ KT uX WX M1)) := by
  show cP k_P xs Ln (d + 1) 112 0 [(0, rf t), (1, (0, from_)), (2, (0, to)), (3, (0, mins))] [] (T, M) _
  have hFm : Fr gS_112_m M M := Fr.refl
  have hw := hW.1
  have hw2 := hW.2.1
  have hw3 := hW.2.2.1
  have hw4 := hW.2.2.2.1
  have ht0 : M t 0 = D 0 0 := owD_at (k := 0) hD (by decide)
  have ht1 : M t 1 = D 0 1 := owD_at (k := 0) hD (by decide)
  refine s_aload_n kx_112_0 rfl ?_
  refine s_iload_n kx_112_1 rfl ?_
  refine s_callV2 (k := t) (s1 := 2) (s2 := 0) (as := [(0, from_)]) (rest := []) kx_112_2 kp_112_78 (Or.inl rfl) rfl (tkt_0 hT ht) ki_106 kcl_106 rfl rfl (by decide) (m_106 (d := d) (room := from_) hT hI ht) (kF (fun v1 v1p => ?_))
  refine s_if_eq (t := 40) kx_112_5 (by decide) (fun hc2 => ?_) (fun hc2 => ?_)
  · replace v1p := v1p.resolve_left (by omega)
    exfalso
    omega
  · replace v1p := v1p.resolve_right (by omega)
    refine s_aload_n kx_112_8 rfl ?_
    refine s_iload_n kx_112_9 rfl ?_
    refine s_callV2 (k := t) (s1 := 2) (s2 := 0) (as := [(0, to)]) (rest := []) kx_112_10 kp_112_78 (Or.inl rfl) rfl (tkt_0 hT ht) ki_106 kcl_106 rfl rfl (by decide) (m_106 (d := d) (room := to) hT hI ht) (kF (fun v3 v3p => ?_))
    refine s_if_eq (t := 40) kx_112_13 (by decide) (fun hc4 => ?_) (fun hc4 => ?_)
    · replace v3p := v3p.resolve_left (by omega)
      exfalso
      omega
    · replace v3p := v3p.resolve_right (by omega)
      refine s_aload_n kx_112_16 rfl ?_
      refine r_getR (k := t) (f := 7) (k2 := (t + 4)) kx_112_17 kp_112_34 (tkt_0 hT ht) kf_9_7 (by decide) (rqt_7 hI ht) ?_
      refine s_iload_n kx_112_20 rfl ?_
      refine s_bipush (v := 8) kx_112_21 (by decide) ?_
      refine r_mul kx_112_23 ⟨by omega, by omega⟩ ?_
      refine s_iload_n kx_112_24 rfl ?_
      refine r_add kx_112_25 ⟨by omega, by omega⟩ ?_
      refine s_iload_n kx_112_26 rfl ?_
      refine r_ast (k := (t + 4)) kx_112_27 (tkt_4 hT ht) ⟨by omega, by omega⟩ hI (rut_4 ht) (fun M5 hI5 u5 => ?_)
      have hFm5 := hFm.up u5 (by rcases ht with rfl | rfl <;> rfl)
      have hkx6 := (KT.up hKX u5 (by omega))
      refine s_aload_n kx_112_28 rfl ?_
      refine r_getR (k := t) (f := 7) (k2 := (t + 4)) kx_112_29 kp_112_34 (tkt_0 hT ht) kf_9_7 (by decide) (rqt_7 hI5 ht) ?_
      refine s_iload_n kx_112_32 rfl ?_
      refine s_bipush (v := 8) kx_112_33 (by decide) ?_
      refine r_mul kx_112_35 ⟨by omega, by omega⟩ ?_
      refine s_iload_n kx_112_36 rfl ?_
      refine r_add kx_112_37 ⟨by omega, by omega⟩ ?_
      refine s_iload_n kx_112_38 rfl ?_
      refine r_ast (k := (t + 4)) kx_112_39 (tkt_4 hT ht) ⟨by omega, by omega⟩ hI5 (rut_4 ht) (fun M7 hI7 u7 => ?_)
      have hFm7 := hFm5.up u7 (by rcases ht with rfl | rfl <;> rfl)
      have hkx8 := (KT.up hkx6 u7 (by omega))
      exact s_vret kx_112_40 kq_112 ⟨_, rfl, rfl, hI7, hFm7, ⟨(owD_up (k := 4) (owD_up (k := 4) hD u5 (by decide) ht) u7 (by decide) ht), hkx8⟩⟩
def gS_114_m : List (Nat × Nat) := [(17, 99999), (34, 99999)]
theorem f_114 {xs : Nat → Int} {Ln d : Nat} {T : List cK} {M : cM} (hT : TT T) (hI : Rng M) {t : Nat} (ht : t = 8 ∨ t = 25) {one other : Int} {D : cM} (hD : owD M t = D) (hW : DW D) {uX : Nat} {WX : cM} (hux : uX = 8 ∧ t = 25 ∨ uX = 25 ∧ t = 8) (hKX : KT uX WX M) (p0 : 0 ≤ one ∧ one < D 0 1) (p1 : 0 ≤ other ∧ other < D 0 1) : cC k_P xs Ln (d + 1) 114 [rf t, (0, one), (0, other)] (T, M) (qV T M gS_114_m (fun M1 => (owD M1 t = owAJ D one other) ∧ KT uX WX M1)) := by
  show cP k_P xs Ln (d + 1) 114 0 [(0, rf t), (1, (0, one)), (2, (0, other))] [] (T, M) _
  have hFm : Fr gS_114_m M M := Fr.refl
  have hw := hW.1
  have hw2 := hW.2.1
  have hw3 := hW.2.2.1
  have hw4 := hW.2.2.2.1
  have ht0 : M t 0 = D 0 0 := owD_at (k := 0) hD (by decide)
  have ht1 : M t 1 = D 0 1 := owD_at (k := 0) hD (by decide)
  refine s_aload_n kx_114_0 rfl ?_
  refine s_iload_n kx_114_1 rfl ?_
  refine s_callV2 (k := t) (s1 := 2) (s2 := 0) (as := [(0, one)]) (rest := []) kx_114_2 kp_114_82 (Or.inl rfl) rfl (tkt_0 hT ht) ki_107 kcl_107 rfl rfl (by decide) (m_107 (d := d) (person := one) hT hI ht) (kF (fun v1 v1p => ?_))
  refine s_if_eq (t := 30) kx_114_5 (by decide) (fun hc2 => ?_) (fun hc2 => ?_)
  · replace v1p := v1p.resolve_left (by omega)
    exfalso
    omega
  · replace v1p := v1p.resolve_right (by omega)
    refine s_aload_n kx_114_8 rfl ?_
    refine s_iload_n kx_114_9 rfl ?_
    refine s_callV2 (k := t) (s1 := 2) (s2 := 0) (as := [(0, other)]) (rest := []) kx_114_10 kp_114_82 (Or.inl rfl) rfl (tkt_0 hT ht) ki_107 kcl_107 rfl rfl (by decide) (m_107 (d := d) (person := other) hT hI ht) (kF (fun v3 v3p => ?_))
    refine s_if_eq (t := 30) kx_114_13 (by decide) (fun hc4 => ?_) (fun hc4 => ?_)
    · replace v3p := v3p.resolve_left (by omega)
      exfalso
      omega
    · replace v3p := v3p.resolve_right (by omega)
      refine s_aload_n kx_114_16 rfl ?_
      refine r_getR (k := t) (f := 12) (k2 := (t + 9)) kx_114_17 kp_114_49 (tkt_0 hT ht) kf_9_12 (by decide) (rqt_12 hI ht) ?_
      refine s_iload_n kx_114_20 rfl ?_
      refine s_iload_n kx_114_21 rfl ?_
      refine r_ast (k := (t + 9)) kx_114_22 (tkt_9 hT ht) ⟨by omega, by omega⟩ hI (rut_9 ht) (fun M5 hI5 u5 => ?_)
      have hFm5 := hFm.up u5 (by rcases ht with rfl | rfl <;> rfl)
      have hkx6 := (KT.up hKX u5 (by omega))
      refine s_aload_n kx_114_23 rfl ?_
      refine r_getR (k := t) (f := 12) (k2 := (t + 9)) kx_114_24 kp_114_49 (tkt_0 hT ht) kf_9_12 (by decide) (rqt_12 hI5 ht) ?_
      refine s_iload_n kx_114_27 rfl ?_
      refine s_iload_n kx_114_28 rfl ?_
      refine r_ast (k := (t + 9)) kx_114_29 (tkt_9 hT ht) ⟨by omega, by omega⟩ hI5 (rut_9 ht) (fun M7 hI7 u7 => ?_)
      have hFm7 := hFm5.up u7 (by rcases ht with rfl | rfl <;> rfl)
      have hkx8 := (KT.up hkx6 u7 (by omega))
      exact s_vret kx_114_30 kq_114 ⟨_, rfl, rfl, hI7, hFm7, ⟨(owD_up (k := 9) (owD_up (k := 9) hD u5 (by decide) ht) u7 (by decide) ht), hkx8⟩⟩
theorem f_115 {xs : Nat → Int} {Ln d : Nat} {T : List cK} {M : cM} (hT : TT T) (hI : Rng M) {t : Nat} (ht : t = 8 ∨ t = 25) {room w : Int} {D : cM} (hD : owD M t = D) (hW : DW D) (p0 : 0 ≤ w ∧ w ≤ 9) (p1 : 0 ≤ room ∧ room < D 0 0) : cC k_P xs Ln (d + 1) 115 [rf t, (0, room), (0, w)] (T, M) (qF T M 0 (fun v => (v = 1 ∧ w ≤ D 2 room.toNat ∧ w + owLd D room (D 0 1).toNat ≤ D 3 room.toNat) ∨ (v = 0 ∧ (D 2 room.toNat < w ∨ D 3 room.toNat < w + owLd D room (D 0 1).toNat)))) := by
  show cP k_P xs Ln (d + 1) 115 0 [(0, rf t), (1, (0, room)), (2, (0, w))] [] (T, M) _
  have hw := hW.1
  have hw2 := hW.2.1
  have hw3 := hW.2.2.1
  have hw4 := hW.2.2.2.1
  have ht0 : M t 0 = D 0 0 := owD_at (k := 0) hD (by decide)
  have ht1 : M t 1 = D 0 1 := owD_at (k := 0) hD (by decide)
  refine s_aload_n kx_115_0 rfl ?_
  refine s_iload_n kx_115_1 rfl ?_
  refine s_callV2 (k := t) (s1 := 2) (s2 := 0) (as := [(0, room)]) (rest := []) kx_115_2 kp_115_78 (Or.inl rfl) rfl (tkt_0 hT ht) ki_106 kcl_106 rfl rfl (by decide) (m_106 (d := d) (room := room) hT hI ht) (kF (fun v1 v1p => ?_))
  refine s_if_eq (t := 18) kx_115_5 (by decide) (fun hc2 => ?_) (fun hc2 => ?_)
  · replace v1p := v1p.resolve_left (by omega)
    refine s_iconst (v := 0) kx_115_18 (by decide) ?_
    exact s_iret kx_115_19 (Or.inr ⟨kq_115, by omega⟩) ⟨_, rfl, rfl, (by omega)⟩
  · replace v1p := v1p.resolve_right (by omega)
    refine s_iload_n kx_115_8 rfl ?_
    refine s_aload_n kx_115_9 rfl ?_
    refine r_getR (k := t) (f := 5) (k2 := (t + 2)) kx_115_10 kp_115_28 (tkt_0 hT ht) kf_9_5 (by decide) (rqt_5 hI ht) ?_
    refine s_iload_n kx_115_13 rfl ?_
    refine r_aldU (k := (t + 2)) kx_115_14 (tkt_2 hT ht) ⟨by omega, by omega⟩ (fun v3 v3e => ?_)
    have v3d : D 2 (room).toNat = v3 := (owD_at (k := 2) hD (by decide)).symm.trans v3e
    refine s_icmp_le (t := 20) kx_115_15 (by decide) (fun hc4 => ?_) (fun hc4 => ?_)
    · refine s_iload_n kx_115_20 rfl ?_
      refine s_istore_n kx_115_21 km_115_3 rfl ?_
      refine s_iconst (v := 0) kx_115_22 (by decide) ?_
      refine s_istore kx_115_23 km_115_4 rfl ?_
      have key7 : ∀ n8 : Nat, ∀ (x3_5 x4_6 : Int), (0 ≤ x3_5) → (x3_5 ≤ 100) → (0 ≤ x4_6) → (x4_6 ≤ D 0 1) → (x3_5 = w + owLd D room (x4_6).toNat) → (2147483647 - x4_6).toNat < n8 → cP k_P xs Ln (d + 1) 115 25 [(0, rf t), (1, (0, room)), (3, (0, x3_5)), (4, (0, x4_6))] [] (T, M) (qF T M 0 (fun v => (v = 1 ∧ w ≤ D 2 room.toNat ∧ w + owLd D room (D 0 1).toNat ≤ D 3 room.toNat) ∨ (v = 0 ∧ (D 2 room.toNat < w ∨ D 3 room.toNat < w + owLd D room (D 0 1).toNat)))) := by
        intro n8
        induction n8 with
        | zero => intro x3_5 x4_6 i9 i10 i11 i12 i13 hm14; exact absurd hm14 (Nat.not_lt_zero _)
        | succ n8 ih15 =>
          intro x3_5 x4_6 i9 i10 i11 i12 i13 hm14
          have hskip := True.intro
          refine s_iload kx_115_25 rfl ?_
          refine s_aload_n kx_115_27 rfl ?_
          refine r_getI (k := t) (f := 1) kx_115_28 kp_115_15 (tkt_0 hT ht) kf_9_1 (fun _ => rfl) (rgt_0_1 hI ht) (fun v16 v16e v16a v16b => ?_)
          have v16d : D 0 1 = v16 := (owD_at (k := 0) hD (by decide)).symm.trans v16e
          refine s_icmp_ge (t := 65) kx_115_31 (by decide) (fun hc17 => ?_) (fun hc17 => ?_)
          · have hfin : D 0 1 = x4_6 := by omega
            rw [hfin]
            refine s_iload_n kx_115_65 rfl ?_
            refine s_aload_n kx_115_66 rfl ?_
            refine r_getR (k := t) (f := 6) (k2 := (t + 3)) kx_115_67 kp_115_31 (tkt_0 hT ht) kf_9_6 (by decide) (rqt_6 hI ht) ?_
            refine s_iload_n kx_115_70 rfl ?_
            refine r_aldU (k := (t + 3)) kx_115_71 (tkt_3 hT ht) ⟨by omega, by omega⟩ (fun v18 v18e => ?_)
            have v18d : D 3 (room).toNat = v18 := (owD_at (k := 3) hD (by decide)).symm.trans v18e
            refine s_icmp_gt (t := 79) kx_115_72 (by decide) (fun hc19 => ?_) (fun hc19 => ?_)
            · refine s_iconst (v := 0) kx_115_79 (by decide) ?_
              exact s_iret kx_115_80 (Or.inr ⟨kq_115, by omega⟩) ⟨_, rfl, rfl, (by omega)⟩
            · refine s_iconst (v := 1) kx_115_75 (by decide) ?_
              refine s_goto (t := 80) kx_115_76 (by decide) ?_
              exact s_iret kx_115_80 (Or.inr ⟨kq_115, by omega⟩) ⟨_, rfl, rfl, (by omega)⟩
          · refine s_iload_n kx_115_34 rfl ?_
            refine s_aload_n kx_115_35 rfl ?_
            refine r_getR (k := t) (f := 13) (k2 := (t + 10)) kx_115_36 kp_115_52 (tkt_0 hT ht) kf_9_13 (by decide) (rqt_13 hI ht) ?_
            refine s_iload kx_115_39 rfl ?_
            refine r_ald (k := (t + 10)) kx_115_41 (tkt_10 hT ht) ⟨by omega, by omega⟩ (rgt_10 hI ht) (fun v20 v20e v20a v20b => ?_)
            have v20d : D 10 (x4_6).toNat = v20 := (owD_at (k := 10) hD (by decide)).symm.trans v20e
            refine s_iload_n kx_115_42 rfl ?_
            refine s_icmp_ne (t := 56) kx_115_43 (by decide) (fun hc21 => ?_) (fun hc21 => ?_)
            · refine s_iconst (v := 0) kx_115_56 (by decide) ?_
              have hld := owLd_rng hW room (x4_6).toNat (by omega)
              have hdw := hW.2.2.2.2.1 (x4_6).toNat (by omega)
              refine r_add kx_115_57 ⟨by omega, by omega⟩ ?_
              refine s_istore_n kx_115_58 km_115_3 rfl ?_
              refine r_iinc kx_115_59 rfl km_115_4 (by decide) ⟨by omega, by omega⟩ rfl ?_
              refine s_goto (t := 25) kx_115_62 (by decide) ?_
              exact cP.wk (lS1 rfl (lS1 rfl (lS1 rfl (lS1 rfl lS0)))) (ih15 (x3_5 + 0) (x4_6 + 1) (by omega) (by omega) (by omega) (by omega) (owLd_next i13 (by omega) (by omega)) (by omega))
            · refine s_aload_n kx_115_46 rfl ?_
              refine r_getR (k := t) (f := 11) (k2 := (t + 8)) kx_115_47 kp_115_46 (tkt_0 hT ht) kf_9_11 (by decide) (rqt_11 hI ht) ?_
              refine s_iload kx_115_50 rfl ?_
              refine r_aldU (k := (t + 8)) kx_115_52 (tkt_8 hT ht) ⟨by omega, by omega⟩ (fun v22 v22e => ?_)
              have v22d : D 8 (x4_6).toNat = v22 := (owD_at (k := 8) hD (by decide)).symm.trans v22e
              refine s_goto (t := 57) kx_115_53 (by decide) ?_
              have hld := owLd_rng hW room (x4_6).toNat (by omega)
              have hdw := hW.2.2.2.2.1 (x4_6).toNat (by omega)
              refine r_add kx_115_57 ⟨by omega, by omega⟩ ?_
              refine s_istore_n kx_115_58 km_115_3 rfl ?_
              refine r_iinc kx_115_59 rfl km_115_4 (by decide) ⟨by omega, by omega⟩ rfl ?_
              refine s_goto (t := 25) kx_115_62 (by decide) ?_
              exact cP.wk (lS1 rfl (lS1 rfl (lS1 rfl (lS1 rfl lS0)))) (ih15 (x3_5 + v22) (x4_6 + 1) (by omega) (by omega) (by omega) (by omega) (owLd_next i13 (by omega) (by omega)) (by omega))
      exact cP.wk (lS1 rfl (lS1 rfl (lS1 rfl (lS1 rfl lS0)))) (key7 _ w 0 (by omega) (by omega) (by omega) (by omega) (by show w = w + 0; omega) (Nat.lt_succ_self _))
    · refine s_iconst (v := 0) kx_115_18 (by decide) ?_
      exact s_iret kx_115_19 (Or.inr ⟨kq_115, by omega⟩) ⟨_, rfl, rfl, (by omega)⟩
def gS_131_m : List (Nat × Nat) := [(3, 2), (5, 2), (5, 3), (5, 4), (5, 5), (5, 6), (5, 7)]
theorem f_131 {xs : Nat → Int} {Ln d : Nat} {T : List cK} {M : cM} (hT : TT T) (hI : Rng M) (h50 : M 5 0 = ((2 : Nat) : Int)) {word least most : Int} {s : Nat → Int} {n p : Int} (hL : LxA M s n p) : cC k_P xs Ln (d + 3) 131 [rf 3, (0, word), (0, least), (0, most)] (T, M) (qW T M gS_131_m 0 (fun v M1 => (v = 1 ∧ owNm s n p word least most = 0 ∧ (M1 3 2 = owV s n (owE s n p) ∧ least ≤ M1 3 2 ∧ M1 3 2 ≤ most) ∧ LxA M1 s n (owE s n (owE s n p))) ∨ (v = 0 ∧ owNm s n p word least most ≠ 0 ∧ Flt M1 (owNm s n p word least most)))) := by
  show cP k_P xs Ln (d + 3) 131 0 [(0, rf 3), (1, (0, word)), (2, (0, least)), (3, (0, most))] [] (T, M) _
  have hFm : Fr gS_131_m M M := Fr.refl
  have ⟨hs, h51, h0, hpn, h53, h55, h5f, h5g, h5v⟩ := hL
  have h51r := rg_5_1 hI
  refine s_aload_n kx_131_0 rfl ?_
  refine r_getR (k := 3) (f := 1) (k2 := 5) kx_131_1 kp_131_22 (tk_3 hT) kf_10_1 (by decide) (rq_3_1 hI) ?_
  refine s_iload_n kx_131_4 rfl ?_
  refine s_callV2 (k := 5) (s1 := 2) (s2 := 0) (as := [(0, word)]) (rest := []) kx_131_5 kp_131_144 (Or.inl rfl) rfl (tk_5 hT) ki_22 kcl_22 rfl rfl (by decide) (f_22 (d := d + 2) (w := word) hT hI hL) (kF (fun v1 v1p => ?_))
  refine s_if_ne (t := 19) kx_131_8 (by decide) (fun hc2 => ?_) (fun hc2 => ?_)
  · replace v1p := v1p.resolve_right (by omega)
    refine s_aload_n kx_131_19 rfl ?_
    refine r_getR (k := 3) (f := 1) (k2 := 5) kx_131_20 kp_131_22 (tk_3 hT) kf_10_1 (by decide) (rq_3_1 hI) ?_
    refine s_callV2 (k := 5) (s1 := 1) (s2 := 0) (as := []) (rest := []) kx_131_23 kp_131_49 (Or.inl rfl) rfl (tk_5 hT) ki_26 kcl_26 rfl rfl (by decide) (f_26 (d := d) hT hI h50 (LxA.nx hL (by omega) (by omega))) (kV (fun M4 hI4 fr4 v3p => ?_))
    have hFm4 := hFm.call fr4 rfl
    have tr5 := (fr4 3 2 rfl)
    have la6 := v3p.1
    have ⟨la6a, la6b, la6c, la6d, la6e, la6f, la6g, la6h, la6i⟩ := la6
    refine s_aload_n kx_131_26 rfl ?_
    refine r_getR (k := 3) (f := 1) (k2 := 5) kx_131_27 kp_131_22 (tk_3 hT) kf_10_1 (by decide) (rq_3_1 hI4) ?_
    refine r_getI (k := 5) (f := 3) kx_131_30 kp_131_63 (tk_5 hT) kf_3_3 (fun _ => rfl) (rg_5_3 hI4) (fun v7 v7e v7a v7b => ?_)
    refine s_iconst (v := 3) kx_131_33 (by decide) ?_
    refine s_icmp_eq (t := 45) kx_131_34 (by decide) (fun hc8 => ?_) (fun hc8 => ?_)
    · refine s_aload_n kx_131_45 rfl ?_
      refine r_getR (k := 3) (f := 1) (k2 := 5) kx_131_46 kp_131_22 (tk_3 hT) kf_10_1 (by decide) (rq_3_1 hI4) ?_
      refine r_getU (k := 5) (f := 4) kx_131_49 kp_131_66 (tk_5 hT) kf_3_4 (fun _ => rfl) (fun v9 v9e => ?_)
      refine s_iload_n kx_131_52 rfl ?_
      refine s_icmp_lt (t := 67) kx_131_53 (by decide) (fun hc10 => ?_) (fun hc10 => ?_)
      · refine s_aload_n kx_131_67 rfl ?_
        refine r_getR (k := 3) (f := 1) (k2 := 5) kx_131_68 kp_131_22 (tk_3 hT) kf_10_1 (by decide) (rq_3_1 hI4) ?_
        refine s_iconst (v := 4) kx_131_71 (by decide) ?_
        refine s_aload_n kx_131_72 rfl ?_
        refine r_getR (k := 3) (f := 1) (k2 := 5) kx_131_73 kp_131_22 (tk_3 hT) kf_10_1 (by decide) (rq_3_1 hI4) ?_
        refine r_getI (k := 5) (f := 5) kx_131_76 kp_131_105 (tk_5 hT) kf_3_5 (fun _ => rfl) (rg_5_5 hI4) (fun v11 v11e v11a v11b => ?_)
        have hk12 : M4 5 5 = v11 := v11e
        refine s_callV2 (k := 5) (s1 := 3) (s2 := 0) (as := [(0, v11), (0, 4)]) (rest := []) kx_131_79 kp_131_45 (Or.inl rfl) rfl (tk_5 hT) ki_20 kcl_20 rfl rfl (by decide) (f_20 (d := d + 2) (kind := 4) (place := v11) hT hI4) (kW (fun v13 M14 hI14 fr14 v13p => ?_))
        have hFm14 := hFm4.call fr14 rfl
        have tr15 := (fr14 3 2 rfl)
        exact s_iret kx_131_82 (Or.inr ⟨kq_131, by omega⟩) ⟨_, _, rfl, rfl, hI14, hFm14, (Or.inr ⟨by omega, (owFl (LxA.fl v3p.1 (by omega) (by omega) (by omega) v13p.2.2 (by decide) rfl) (by unfold owNm; (repeat' split) <;> omega))⟩)⟩
      · refine s_aload_n kx_131_56 rfl ?_
        refine r_getR (k := 3) (f := 1) (k2 := 5) kx_131_57 kp_131_22 (tk_3 hT) kf_10_1 (by decide) (rq_3_1 hI4) ?_
        refine r_getK (k := 5) (f := 4) kx_131_60 kp_131_66 (tk_5 hT) kf_3_4 (fun _ => rfl) v9e ?_
        refine s_iload_n kx_131_63 rfl ?_
        refine s_icmp_le (t := 83) kx_131_64 (by decide) (fun hc16 => ?_) (fun hc16 => ?_)
        · refine s_aload_n kx_131_83 rfl ?_
          refine s_aload_n kx_131_84 rfl ?_
          refine r_getR (k := 3) (f := 1) (k2 := 5) kx_131_85 kp_131_22 (tk_3 hT) kf_10_1 (by decide) (rq_3_1 hI4) ?_
          refine r_getK (k := 5) (f := 4) kx_131_88 kp_131_66 (tk_5 hT) kf_3_4 (fun _ => rfl) v9e ?_
          refine r_put (k := 3) (f := 2) kx_131_91 kp_131_23 (tk_3 hT) kf_10_2 rfl (by decide) (by decide) hI4 ru_3_2 (fun M17 hI17 u17 => ?_)
          have hFm17 := hFm4.up u17 rfl
          refine s_aload_n kx_131_94 rfl ?_
          refine r_getR (k := 3) (f := 1) (k2 := 5) kx_131_95 kp_131_22 (tk_3 hT) kf_10_1 (by decide) (rq_3_1 hI17) ?_
          refine s_callV2 (k := 5) (s1 := 1) (s2 := 0) (as := []) (rest := []) kx_131_98 kp_131_49 (Or.inl rfl) rfl (tk_5 hT) ki_26 kcl_26 rfl rfl (by decide) (f_26 (d := d) hT hI17 ((u17.2 5 0 (by omega)).trans ((fr4 5 0 rfl).trans h50)) (LxA.nx (LxA.up v3p.1 u17 (by decide)) (by omega) (by omega))) (kV (fun M19 hI19 fr19 v18p => ?_))
          have hFm19 := hFm17.call fr19 rfl
          have tr20 := (fr19 3 2 rfl)
          have la21 := v18p.1
          have ⟨la21a, la21b, la21c, la21d, la21e, la21f, la21g, la21h, la21i⟩ := la21
          refine s_iconst (v := 1) kx_131_101 (by decide) ?_
          have hk22 : M19 3 2 = v9 := ((fr19 3 2 rfl).trans u17.1)
          exact s_iret kx_131_102 (Or.inr ⟨kq_131, by omega⟩) ⟨_, _, rfl, rfl, hI19, hFm19, (Or.inl ⟨rfl, (by unfold owNm; (repeat' split) <;> omega), ⟨by omega, by omega, by omega⟩, v18p.1⟩)⟩
        · refine s_aload_n kx_131_67 rfl ?_
          refine r_getR (k := 3) (f := 1) (k2 := 5) kx_131_68 kp_131_22 (tk_3 hT) kf_10_1 (by decide) (rq_3_1 hI4) ?_
          refine s_iconst (v := 4) kx_131_71 (by decide) ?_
          refine s_aload_n kx_131_72 rfl ?_
          refine r_getR (k := 3) (f := 1) (k2 := 5) kx_131_73 kp_131_22 (tk_3 hT) kf_10_1 (by decide) (rq_3_1 hI4) ?_
          refine r_getI (k := 5) (f := 5) kx_131_76 kp_131_105 (tk_5 hT) kf_3_5 (fun _ => rfl) (rg_5_5 hI4) (fun v23 v23e v23a v23b => ?_)
          have hk24 : M4 5 5 = v23 := v23e
          refine s_callV2 (k := 5) (s1 := 3) (s2 := 0) (as := [(0, v23), (0, 4)]) (rest := []) kx_131_79 kp_131_45 (Or.inl rfl) rfl (tk_5 hT) ki_20 kcl_20 rfl rfl (by decide) (f_20 (d := d + 2) (kind := 4) (place := v23) hT hI4) (kW (fun v25 M26 hI26 fr26 v25p => ?_))
          have hFm26 := hFm4.call fr26 rfl
          have tr27 := (fr26 3 2 rfl)
          exact s_iret kx_131_82 (Or.inr ⟨kq_131, by omega⟩) ⟨_, _, rfl, rfl, hI26, hFm26, (Or.inr ⟨by omega, (owFl (LxA.fl v3p.1 (by omega) (by omega) (by omega) v25p.2.2 (by decide) rfl) (by unfold owNm; (repeat' split) <;> omega))⟩)⟩
    · refine s_aload_n kx_131_37 rfl ?_
      refine r_getR (k := 3) (f := 1) (k2 := 5) kx_131_38 kp_131_22 (tk_3 hT) kf_10_1 (by decide) (rq_3_1 hI4) ?_
      refine s_callV2 (k := 5) (s1 := 1) (s2 := 0) (as := []) (rest := []) kx_131_41 kp_131_60 (Or.inl rfl) rfl (tk_5 hT) ki_21 kcl_21 rfl rfl (by decide) (f_21 (d := d + 1) hT hI4) (kW (fun v28 M29 hI29 fr29 v28p => ?_))
      have hFm29 := hFm4.call fr29 rfl
      have tr30 := (fr29 3 2 rfl)
      exact s_iret kx_131_44 (Or.inr ⟨kq_131, by omega⟩) ⟨_, _, rfl, rfl, hI29, hFm29, (Or.inr ⟨by omega, (owFl ⟨(by have := owU_pos (s := s) (n := n) (p := _) (v3p.1).2.2.1; omega), LxA.un v3p.1 (by omega) v28p.2.2⟩ (by unfold owNm; (repeat' split) <;> omega))⟩)⟩
  · replace v1p := v1p.resolve_left (by omega)
    refine s_aload_n kx_131_11 rfl ?_
    refine r_getR (k := 3) (f := 1) (k2 := 5) kx_131_12 kp_131_22 (tk_3 hT) kf_10_1 (by decide) (rq_3_1 hI) ?_
    refine s_callV2 (k := 5) (s1 := 1) (s2 := 0) (as := []) (rest := []) kx_131_15 kp_131_60 (Or.inl rfl) rfl (tk_5 hT) ki_21 kcl_21 rfl rfl (by decide) (f_21 (d := d + 1) hT hI) (kW (fun v31 M32 hI32 fr32 v31p => ?_))
    have hFm32 := hFm.call fr32 rfl
    have tr33 := (fr32 3 2 rfl)
    exact s_iret kx_131_18 (Or.inr ⟨kq_131, by omega⟩) ⟨_, _, rfl, rfl, hI32, hFm32, (Or.inr ⟨by omega, (owFl ⟨(by have := owU_pos (s := s) (n := n) (p := _) (hL).2.2.1; omega), LxA.un hL (by omega) v31p.2.2⟩ (by unfold owNm; (repeat' split) <;> omega))⟩)⟩
def gS_132_m : List (Nat × Nat) := [(5, 6), (5, 7)]
theorem f_132 {xs : Nat → Int} {Ln d : Nat} {T : List cK} {M : cM} (hT : TT T) (hI : Rng M) {t : Nat} (ht : t = 8 ∨ t = 25) {s : Nat → Int} {n p : Int} {D : cM} (hL : LxA M s n p) (hD : owD M t = D) (hW : DW D) : cC k_P xs Ln (d + 2) 132 [rf 3, rf t] (T, M) (qW T M gS_132_m 0 (fun v M1 => (v = owV s n p ∧ 0 ≤ v ∧ owFr s n D p = 0 ∧ owK s n p = 2 ∧ LxA M1 s n p) ∨ (v = -1 ∧ owFr s n D p ≠ 0 ∧ Flt M1 (owFr s n D p)))) := by
  show cP k_P xs Ln (d + 2) 132 0 [(0, rf 3), (1, rf t)] [] (T, M) _
  have hFm : Fr gS_132_m M M := Fr.refl
  have ⟨hs, h51, h0, hpn, h53, h55, h5f, h5g, h5v⟩ := hL
  have h51r := rg_5_1 hI
  have hw := hW.1
  have hw2 := hW.2.1
  have hw3 := hW.2.2.1
  have hw4 := hW.2.2.2.1
  have ht0 : M t 0 = D 0 0 := owD_at (k := 0) hD (by decide)
  have ht1 : M t 1 = D 0 1 := owD_at (k := 0) hD (by decide)
  have hvn := @owV_name s n p hpn
  refine s_aload_n kx_132_0 rfl ?_
  refine r_getR (k := 3) (f := 1) (k2 := 5) kx_132_1 kp_132_22 (tk_3 hT) kf_10_1 (by decide) (rq_3_1 hI) ?_
  refine r_getI (k := 5) (f := 3) kx_132_4 kp_132_63 (tk_5 hT) kf_3_3 (fun _ => rfl) (rg_5_3 hI) (fun v1 v1e v1a v1b => ?_)
  refine s_iconst (v := 2) kx_132_7 (by decide) ?_
  refine s_icmp_eq (t := 21) kx_132_8 (by decide) (fun hc2 => ?_) (fun hc2 => ?_)
  · have hv2 := h5v (by omega) (by omega)
    refine s_aload_n kx_132_21 rfl ?_
    refine s_aload_n kx_132_22 rfl ?_
    refine r_getR (k := 3) (f := 1) (k2 := 5) kx_132_23 kp_132_22 (tk_3 hT) kf_10_1 (by decide) (rq_3_1 hI) ?_
    refine r_getU (k := 5) (f := 4) kx_132_26 kp_132_66 (tk_5 hT) kf_3_4 (fun _ => rfl) (fun v3 v3e => ?_)
    have hv3 : v3 = owV s n p := by omega
    refine s_callV2 (k := t) (s1 := 2) (s2 := 0) (as := [(0, v3)]) (rest := []) kx_132_29 kp_132_170 (Or.inl rfl) rfl (tkt_0 hT ht) ki_108 kcl_108 rfl rfl (by decide) (f_108 (d := d) (name := v3) hT hI ht hD hW) (kF (fun v4 v4p => ?_))
    rw [hv3] at v4p
    refine s_iconst (v := (-1)) kx_132_32 (by decide) ?_
    refine s_icmp_ne (t := 51) kx_132_33 (by decide) (fun hc5 => ?_) (fun hc5 => ?_)
    · refine s_aload_n kx_132_51 rfl ?_
      refine r_getR (k := 3) (f := 1) (k2 := 5) kx_132_52 kp_132_22 (tk_3 hT) kf_10_1 (by decide) (rq_3_1 hI) ?_
      refine s_iconst (v := 2) kx_132_55 (by decide) ?_
      refine s_aload_n kx_132_56 rfl ?_
      refine r_getR (k := 3) (f := 1) (k2 := 5) kx_132_57 kp_132_22 (tk_3 hT) kf_10_1 (by decide) (rq_3_1 hI) ?_
      refine r_getI (k := 5) (f := 5) kx_132_60 kp_132_105 (tk_5 hT) kf_3_5 (fun _ => rfl) (rg_5_5 hI) (fun v6 v6e v6a v6b => ?_)
      have hk7 : M 5 5 = v6 := v6e
      refine s_callV2 (k := 5) (s1 := 3) (s2 := 0) (as := [(0, v6), (0, 2)]) (rest := []) kx_132_63 kp_132_45 (Or.inl rfl) rfl (tk_5 hT) ki_20 kcl_20 rfl rfl (by decide) (f_20 (d := d + 1) (kind := 2) (place := v6) hT hI) (kW (fun v8 M9 hI9 fr9 v8p => ?_))
      have hFm9 := hFm.call fr9 rfl
      refine s_pop kx_132_66 rfl ?_
      refine s_iconst (v := (-1)) kx_132_67 (by decide) ?_
      exact s_iret kx_132_68 (Or.inl kq_132) ⟨_, _, rfl, rfl, hI9, hFm9, (Or.inr ⟨rfl, (owFl (LxA.fl hL (by omega) (by omega) (by omega) v8p.2.2 (by decide) rfl) (by unfold owFr; (repeat' split) <;> omega))⟩)⟩
    · refine s_aload_n kx_132_36 rfl ?_
      refine s_aload_n kx_132_37 rfl ?_
      refine r_getR (k := 3) (f := 1) (k2 := 5) kx_132_38 kp_132_22 (tk_3 hT) kf_10_1 (by decide) (rq_3_1 hI) ?_
      refine r_getK (k := 5) (f := 4) kx_132_41 kp_132_66 (tk_5 hT) kf_3_4 (fun _ => rfl) v3e ?_
      refine s_callV2 (k := t) (s1 := 2) (s2 := 0) (as := [(0, v3)]) (rest := []) kx_132_44 kp_132_174 (Or.inl rfl) rfl (tkt_0 hT ht) ki_109 kcl_109 rfl rfl (by decide) (f_109 (d := d) (name := v3) hT hI ht hD hW) (kF (fun v10 v10p => ?_))
      rw [hv3] at v10p
      refine s_iconst (v := (-1)) kx_132_47 (by decide) ?_
      refine s_icmp_eq (t := 69) kx_132_48 (by decide) (fun hc11 => ?_) (fun hc11 => ?_)
      · refine s_aload_n kx_132_69 rfl ?_
        refine r_getR (k := 3) (f := 1) (k2 := 5) kx_132_70 kp_132_22 (tk_3 hT) kf_10_1 (by decide) (rq_3_1 hI) ?_
        refine r_getK (k := 5) (f := 4) kx_132_73 kp_132_66 (tk_5 hT) kf_3_4 (fun _ => rfl) v3e ?_
        exact s_iret kx_132_76 (Or.inl kq_132) ⟨_, _, rfl, rfl, hI, hFm, (Or.inl ⟨by omega, by omega, (by unfold owFr; (repeat' split) <;> omega), by omega, hL⟩)⟩
      · refine s_aload_n kx_132_51 rfl ?_
        refine r_getR (k := 3) (f := 1) (k2 := 5) kx_132_52 kp_132_22 (tk_3 hT) kf_10_1 (by decide) (rq_3_1 hI) ?_
        refine s_iconst (v := 2) kx_132_55 (by decide) ?_
        refine s_aload_n kx_132_56 rfl ?_
        refine r_getR (k := 3) (f := 1) (k2 := 5) kx_132_57 kp_132_22 (tk_3 hT) kf_10_1 (by decide) (rq_3_1 hI) ?_
        refine r_getI (k := 5) (f := 5) kx_132_60 kp_132_105 (tk_5 hT) kf_3_5 (fun _ => rfl) (rg_5_5 hI) (fun v12 v12e v12a v12b => ?_)
        have hk13 : M 5 5 = v12 := v12e
        refine s_callV2 (k := 5) (s1 := 3) (s2 := 0) (as := [(0, v12), (0, 2)]) (rest := []) kx_132_63 kp_132_45 (Or.inl rfl) rfl (tk_5 hT) ki_20 kcl_20 rfl rfl (by decide) (f_20 (d := d + 1) (kind := 2) (place := v12) hT hI) (kW (fun v14 M15 hI15 fr15 v14p => ?_))
        have hFm15 := hFm.call fr15 rfl
        refine s_pop kx_132_66 rfl ?_
        refine s_iconst (v := (-1)) kx_132_67 (by decide) ?_
        exact s_iret kx_132_68 (Or.inl kq_132) ⟨_, _, rfl, rfl, hI15, hFm15, (Or.inr ⟨rfl, (owFl (LxA.fl hL (by omega) (by omega) (by omega) v14p.2.2 (by decide) rfl) (by unfold owFr; (repeat' split) <;> omega))⟩)⟩
  · refine s_aload_n kx_132_11 rfl ?_
    refine r_getR (k := 3) (f := 1) (k2 := 5) kx_132_12 kp_132_22 (tk_3 hT) kf_10_1 (by decide) (rq_3_1 hI) ?_
    refine s_callV2 (k := 5) (s1 := 1) (s2 := 0) (as := []) (rest := []) kx_132_15 kp_132_60 (Or.inl rfl) rfl (tk_5 hT) ki_21 kcl_21 rfl rfl (by decide) (f_21 (d := d) hT hI) (kW (fun v16 M17 hI17 fr17 v16p => ?_))
    have hFm17 := hFm.call fr17 rfl
    refine s_pop kx_132_18 rfl ?_
    refine s_iconst (v := (-1)) kx_132_19 (by decide) ?_
    exact s_iret kx_132_20 (Or.inl kq_132) ⟨_, _, rfl, rfl, hI17, hFm17, (Or.inr ⟨rfl, (owFl ⟨(by have := owU_pos (s := s) (n := n) (p := _) (hL).2.2.1; omega), LxA.un hL (by omega) v16p.2.2⟩ (by unfold owFr; (repeat' split) <;> omega))⟩)⟩
def gS_133_m : List (Nat × Nat) := [(5, 6), (5, 7)]
theorem f_133 {xs : Nat → Int} {Ln d : Nat} {T : List cK} {M : cM} (hT : TT T) (hI : Rng M) {t : Nat} (ht : t = 8 ∨ t = 25) {s : Nat → Int} {n p : Int} {D : cM} (hL : LxA M s n p) (hD : owD M t = D) (hW : DW D) : cC k_P xs Ln (d + 2) 133 [rf 3, rf t] (T, M) (qW T M gS_133_m 0 (fun v M1 => (v = owRi s n D p ∧ 0 ≤ v ∧ v < D 0 0 ∧ owKr s n D p = 0 ∧ owK s n p = 2 ∧ LxA M1 s n p) ∨ (v = -1 ∧ owKr s n D p ≠ 0 ∧ Flt M1 (owKr s n D p)))) := by
  show cP k_P xs Ln (d + 2) 133 0 [(0, rf 3), (1, rf t)] [] (T, M) _
  have hFm : Fr gS_133_m M M := Fr.refl
  have ⟨hs, h51, h0, hpn, h53, h55, h5f, h5g, h5v⟩ := hL
  have h51r := rg_5_1 hI
  have hw := hW.1
  have hw2 := hW.2.1
  have hw3 := hW.2.2.1
  have hw4 := hW.2.2.2.1
  have ht0 : M t 0 = D 0 0 := owD_at (k := 0) hD (by decide)
  have ht1 : M t 1 = D 0 1 := owD_at (k := 0) hD (by decide)
  have hvn := @owV_name s n p hpn
  refine s_aload_n kx_133_0 rfl ?_
  refine r_getR (k := 3) (f := 1) (k2 := 5) kx_133_1 kp_133_22 (tk_3 hT) kf_10_1 (by decide) (rq_3_1 hI) ?_
  refine r_getI (k := 5) (f := 3) kx_133_4 kp_133_63 (tk_5 hT) kf_3_3 (fun _ => rfl) (rg_5_3 hI) (fun v1 v1e v1a v1b => ?_)
  refine s_iconst (v := 2) kx_133_7 (by decide) ?_
  refine s_icmp_eq (t := 21) kx_133_8 (by decide) (fun hc2 => ?_) (fun hc2 => ?_)
  · have hv2 := h5v (by omega) (by omega)
    refine s_aload_n kx_133_21 rfl ?_
    refine s_aload_n kx_133_22 rfl ?_
    refine r_getR (k := 3) (f := 1) (k2 := 5) kx_133_23 kp_133_22 (tk_3 hT) kf_10_1 (by decide) (rq_3_1 hI) ?_
    refine r_getU (k := 5) (f := 4) kx_133_26 kp_133_66 (tk_5 hT) kf_3_4 (fun _ => rfl) (fun v3 v3e => ?_)
    have hv3 : v3 = owV s n p := by omega
    refine s_callV2 (k := t) (s1 := 2) (s2 := 0) (as := [(0, v3)]) (rest := []) kx_133_29 kp_133_170 (Or.inl rfl) rfl (tkt_0 hT ht) ki_108 kcl_108 rfl rfl (by decide) (f_108 (d := d) (name := v3) hT hI ht hD hW) (kF (fun v4 v4p => ?_))
    have hir := owIx_rng (D 1) (owV s n p) (D 0 0).toNat
    refine s_istore_n kx_133_32 km_133_2 rfl ?_
    have hv4 : v4 = owRi s n D p := by unfold owRi; rw [← hv3]; omega
    have hv5 : owRi s n D p = owIx (D 1) (owV s n p) (D 0 0).toNat := rfl
    refine s_iload_n kx_133_33 rfl ?_
    refine s_iconst (v := (-1)) kx_133_34 (by decide) ?_
    refine s_icmp_ne (t := 54) kx_133_35 (by decide) (fun hc5 => ?_) (fun hc5 => ?_)
    · refine s_iload_n kx_133_54 rfl ?_
      exact s_iret kx_133_55 (Or.inl kq_133) ⟨_, _, rfl, rfl, hI, hFm, (Or.inl ⟨by omega, by omega, by omega, (by unfold owKr; (repeat' split) <;> omega), by omega, hL⟩)⟩
    · refine s_aload_n kx_133_38 rfl ?_
      refine r_getR (k := 3) (f := 1) (k2 := 5) kx_133_39 kp_133_22 (tk_3 hT) kf_10_1 (by decide) (rq_3_1 hI) ?_
      refine s_iconst (v := 3) kx_133_42 (by decide) ?_
      refine s_aload_n kx_133_43 rfl ?_
      refine r_getR (k := 3) (f := 1) (k2 := 5) kx_133_44 kp_133_22 (tk_3 hT) kf_10_1 (by decide) (rq_3_1 hI) ?_
      refine r_getI (k := 5) (f := 5) kx_133_47 kp_133_105 (tk_5 hT) kf_3_5 (fun _ => rfl) (rg_5_5 hI) (fun v6 v6e v6a v6b => ?_)
      have hk7 : M 5 5 = v6 := v6e
      refine s_callV2 (k := 5) (s1 := 3) (s2 := 0) (as := [(0, v6), (0, 3)]) (rest := []) kx_133_50 kp_133_45 (Or.inl rfl) rfl (tk_5 hT) ki_20 kcl_20 rfl rfl (by decide) (f_20 (d := d + 1) (kind := 3) (place := v6) hT hI) (kW (fun v8 M9 hI9 fr9 v8p => ?_))
      have hFm9 := hFm.call fr9 rfl
      refine s_pop kx_133_53 rfl ?_
      refine s_iload_n kx_133_54 rfl ?_
      exact s_iret kx_133_55 (Or.inl kq_133) ⟨_, _, rfl, rfl, hI9, hFm9, (Or.inr ⟨by omega, (owFl (LxA.fl hL (by omega) (by omega) (by omega) v8p.2.2 (by decide) rfl) (by unfold owKr; (repeat' split) <;> omega))⟩)⟩
  · refine s_aload_n kx_133_11 rfl ?_
    refine r_getR (k := 3) (f := 1) (k2 := 5) kx_133_12 kp_133_22 (tk_3 hT) kf_10_1 (by decide) (rq_3_1 hI) ?_
    refine s_callV2 (k := 5) (s1 := 1) (s2 := 0) (as := []) (rest := []) kx_133_15 kp_133_60 (Or.inl rfl) rfl (tk_5 hT) ki_21 kcl_21 rfl rfl (by decide) (f_21 (d := d) hT hI) (kW (fun v10 M11 hI11 fr11 v10p => ?_))
    have hFm11 := hFm.call fr11 rfl
    refine s_pop kx_133_18 rfl ?_
    refine s_iconst (v := (-1)) kx_133_19 (by decide) ?_
    exact s_iret kx_133_20 (Or.inl kq_133) ⟨_, _, rfl, rfl, hI11, hFm11, (Or.inr ⟨by omega, (owFl ⟨(by have := owU_pos (s := s) (n := n) (p := _) (hL).2.2.1; omega), LxA.un hL (by omega) v10p.2.2⟩ (by unfold owKr; (repeat' split) <;> omega))⟩)⟩
def gS_134_m : List (Nat × Nat) := [(5, 6), (5, 7)]
theorem f_134 {xs : Nat → Int} {Ln d : Nat} {T : List cK} {M : cM} (hT : TT T) (hI : Rng M) {t : Nat} (ht : t = 8 ∨ t = 25) {other : Int} {s : Nat → Int} {n p : Int} {D : cM} (hL : LxA M s n p) (hD : owD M t = D) (hW : DW D) : cC k_P xs Ln (d + 2) 134 [rf 3, rf t, (0, other)] (T, M) (qW T M gS_134_m 0 (fun v M1 => (v = owPi s n D p ∧ 0 ≤ v ∧ v < D 0 1 ∧ owUj s n D p other = 0 ∧ owK s n p = 2 ∧ LxA M1 s n p) ∨ (v = -1 ∧ owUj s n D p other ≠ 0 ∧ Flt M1 (owUj s n D p other)))) := by
  show cP k_P xs Ln (d + 2) 134 0 [(0, rf 3), (1, rf t), (2, (0, other))] [] (T, M) _
  have hFm : Fr gS_134_m M M := Fr.refl
  have ⟨hs, h51, h0, hpn, h53, h55, h5f, h5g, h5v⟩ := hL
  have h51r := rg_5_1 hI
  have hw := hW.1
  have hw2 := hW.2.1
  have hw3 := hW.2.2.1
  have hw4 := hW.2.2.2.1
  have ht0 : M t 0 = D 0 0 := owD_at (k := 0) hD (by decide)
  have ht1 : M t 1 = D 0 1 := owD_at (k := 0) hD (by decide)
  have hvn := @owV_name s n p hpn
  refine s_aload_n kx_134_0 rfl ?_
  refine r_getR (k := 3) (f := 1) (k2 := 5) kx_134_1 kp_134_22 (tk_3 hT) kf_10_1 (by decide) (rq_3_1 hI) ?_
  refine r_getI (k := 5) (f := 3) kx_134_4 kp_134_63 (tk_5 hT) kf_3_3 (fun _ => rfl) (rg_5_3 hI) (fun v1 v1e v1a v1b => ?_)
  refine s_iconst (v := 2) kx_134_7 (by decide) ?_
  refine s_icmp_eq (t := 21) kx_134_8 (by decide) (fun hc2 => ?_) (fun hc2 => ?_)
  · have hv2 := h5v (by omega) (by omega)
    refine s_aload_n kx_134_21 rfl ?_
    refine s_aload_n kx_134_22 rfl ?_
    refine r_getR (k := 3) (f := 1) (k2 := 5) kx_134_23 kp_134_22 (tk_3 hT) kf_10_1 (by decide) (rq_3_1 hI) ?_
    refine r_getU (k := 5) (f := 4) kx_134_26 kp_134_66 (tk_5 hT) kf_3_4 (fun _ => rfl) (fun v3 v3e => ?_)
    have hv3 : v3 = owV s n p := by omega
    refine s_callV2 (k := t) (s1 := 2) (s2 := 0) (as := [(0, v3)]) (rest := []) kx_134_29 kp_134_174 (Or.inl rfl) rfl (tkt_0 hT ht) ki_109 kcl_109 rfl rfl (by decide) (f_109 (d := d) (name := v3) hT hI ht hD hW) (kF (fun v4 v4p => ?_))
    have hir := owIx_rng (D 5) (owV s n p) (D 0 1).toNat
    refine s_istore_n kx_134_32 km_134_3 rfl ?_
    have hv4 : v4 = owPi s n D p := by unfold owPi; rw [← hv3]; omega
    have hv5 : owPi s n D p = owIx (D 5) (owV s n p) (D 0 1).toNat := rfl
    refine s_iload_n kx_134_33 rfl ?_
    refine s_iconst (v := (-1)) kx_134_34 (by decide) ?_
    refine s_icmp_eq (t := 53) kx_134_35 (by decide) (fun hc5 => ?_) (fun hc5 => ?_)
    · refine s_aload_n kx_134_53 rfl ?_
      refine r_getR (k := 3) (f := 1) (k2 := 5) kx_134_54 kp_134_22 (tk_3 hT) kf_10_1 (by decide) (rq_3_1 hI) ?_
      refine s_iconst (v := 3) kx_134_57 (by decide) ?_
      refine s_aload_n kx_134_58 rfl ?_
      refine r_getR (k := 3) (f := 1) (k2 := 5) kx_134_59 kp_134_22 (tk_3 hT) kf_10_1 (by decide) (rq_3_1 hI) ?_
      refine r_getI (k := 5) (f := 5) kx_134_62 kp_134_105 (tk_5 hT) kf_3_5 (fun _ => rfl) (rg_5_5 hI) (fun v6 v6e v6a v6b => ?_)
      have hk7 : M 5 5 = v6 := v6e
      refine s_callV2 (k := 5) (s1 := 3) (s2 := 0) (as := [(0, v6), (0, 3)]) (rest := []) kx_134_65 kp_134_45 (Or.inl rfl) rfl (tk_5 hT) ki_20 kcl_20 rfl rfl (by decide) (f_20 (d := d + 1) (kind := 3) (place := v6) hT hI) (kW (fun v8 M9 hI9 fr9 v8p => ?_))
      have hFm9 := hFm.call fr9 rfl
      refine s_pop kx_134_68 rfl ?_
      refine s_iconst (v := (-1)) kx_134_69 (by decide) ?_
      exact s_iret kx_134_70 (Or.inl kq_134) ⟨_, _, rfl, rfl, hI9, hFm9, (Or.inr ⟨rfl, (owFl (LxA.fl hL (by omega) (by omega) (by omega) v8p.2.2 (by decide) rfl) (by unfold owUj; (repeat' split) <;> omega))⟩)⟩
    · refine s_iload_n kx_134_38 rfl ?_
      refine s_iload_n kx_134_39 rfl ?_
      refine s_icmp_eq (t := 53) kx_134_40 (by decide) (fun hc10 => ?_) (fun hc10 => ?_)
      · refine s_aload_n kx_134_53 rfl ?_
        refine r_getR (k := 3) (f := 1) (k2 := 5) kx_134_54 kp_134_22 (tk_3 hT) kf_10_1 (by decide) (rq_3_1 hI) ?_
        refine s_iconst (v := 3) kx_134_57 (by decide) ?_
        refine s_aload_n kx_134_58 rfl ?_
        refine r_getR (k := 3) (f := 1) (k2 := 5) kx_134_59 kp_134_22 (tk_3 hT) kf_10_1 (by decide) (rq_3_1 hI) ?_
        refine r_getI (k := 5) (f := 5) kx_134_62 kp_134_105 (tk_5 hT) kf_3_5 (fun _ => rfl) (rg_5_5 hI) (fun v11 v11e v11a v11b => ?_)
        have hk12 : M 5 5 = v11 := v11e
        refine s_callV2 (k := 5) (s1 := 3) (s2 := 0) (as := [(0, v11), (0, 3)]) (rest := []) kx_134_65 kp_134_45 (Or.inl rfl) rfl (tk_5 hT) ki_20 kcl_20 rfl rfl (by decide) (f_20 (d := d + 1) (kind := 3) (place := v11) hT hI) (kW (fun v13 M14 hI14 fr14 v13p => ?_))
        have hFm14 := hFm.call fr14 rfl
        refine s_pop kx_134_68 rfl ?_
        refine s_iconst (v := (-1)) kx_134_69 (by decide) ?_
        exact s_iret kx_134_70 (Or.inl kq_134) ⟨_, _, rfl, rfl, hI14, hFm14, (Or.inr ⟨rfl, (owFl (LxA.fl hL (by omega) (by omega) (by omega) v13p.2.2 (by decide) rfl) (by unfold owUj; (repeat' split) <;> omega))⟩)⟩
      · refine s_aload_n kx_134_43 rfl ?_
        refine r_getR (k := t) (f := 12) (k2 := (t + 9)) kx_134_44 kp_134_177 (tkt_0 hT ht) kf_9_12 (by decide) (rqt_12 hI ht) ?_
        refine s_iload_n kx_134_47 rfl ?_
        refine r_aldU (k := (t + 9)) kx_134_48 (tkt_9 hT ht) ⟨by omega, by omega⟩ (fun v15 v15e => ?_)
        have v15d : D 9 (v4).toNat = v15 := (owD_at (k := 9) hD (by decide)).symm.trans v15e
        refine s_iconst (v := (-1)) kx_134_49 (by decide) ?_
        rw [hv4] at v15d
        refine s_icmp_eq (t := 71) kx_134_50 (by decide) (fun hc16 => ?_) (fun hc16 => ?_)
        · refine s_iload_n kx_134_71 rfl ?_
          exact s_iret kx_134_72 (Or.inl kq_134) ⟨_, _, rfl, rfl, hI, hFm, (Or.inl ⟨by omega, by omega, by omega, (by unfold owUj; (repeat' split) <;> omega), by omega, hL⟩)⟩
        · refine s_aload_n kx_134_53 rfl ?_
          refine r_getR (k := 3) (f := 1) (k2 := 5) kx_134_54 kp_134_22 (tk_3 hT) kf_10_1 (by decide) (rq_3_1 hI) ?_
          refine s_iconst (v := 3) kx_134_57 (by decide) ?_
          refine s_aload_n kx_134_58 rfl ?_
          refine r_getR (k := 3) (f := 1) (k2 := 5) kx_134_59 kp_134_22 (tk_3 hT) kf_10_1 (by decide) (rq_3_1 hI) ?_
          refine r_getI (k := 5) (f := 5) kx_134_62 kp_134_105 (tk_5 hT) kf_3_5 (fun _ => rfl) (rg_5_5 hI) (fun v17 v17e v17a v17b => ?_)
          have hk18 : M 5 5 = v17 := v17e
          refine s_callV2 (k := 5) (s1 := 3) (s2 := 0) (as := [(0, v17), (0, 3)]) (rest := []) kx_134_65 kp_134_45 (Or.inl rfl) rfl (tk_5 hT) ki_20 kcl_20 rfl rfl (by decide) (f_20 (d := d + 1) (kind := 3) (place := v17) hT hI) (kW (fun v19 M20 hI20 fr20 v19p => ?_))
          have hFm20 := hFm.call fr20 rfl
          refine s_pop kx_134_68 rfl ?_
          refine s_iconst (v := (-1)) kx_134_69 (by decide) ?_
          exact s_iret kx_134_70 (Or.inl kq_134) ⟨_, _, rfl, rfl, hI20, hFm20, (Or.inr ⟨rfl, (owFl (LxA.fl hL (by omega) (by omega) (by omega) v19p.2.2 (by decide) rfl) (by unfold owUj; (repeat' split) <;> omega))⟩)⟩
  · refine s_aload_n kx_134_11 rfl ?_
    refine r_getR (k := 3) (f := 1) (k2 := 5) kx_134_12 kp_134_22 (tk_3 hT) kf_10_1 (by decide) (rq_3_1 hI) ?_
    refine s_callV2 (k := 5) (s1 := 1) (s2 := 0) (as := []) (rest := []) kx_134_15 kp_134_60 (Or.inl rfl) rfl (tk_5 hT) ki_21 kcl_21 rfl rfl (by decide) (f_21 (d := d) hT hI) (kW (fun v21 M22 hI22 fr22 v21p => ?_))
    have hFm22 := hFm.call fr22 rfl
    refine s_pop kx_134_18 rfl ?_
    refine s_iconst (v := (-1)) kx_134_19 (by decide) ?_
    exact s_iret kx_134_20 (Or.inl kq_134) ⟨_, _, rfl, rfl, hI22, hFm22, (Or.inr ⟨rfl, (owFl ⟨(by have := owU_pos (s := s) (n := n) (p := _) (hL).2.2.1; omega), LxA.un hL (by omega) v21p.2.2⟩ (by unfold owUj; (repeat' split) <;> omega))⟩)⟩
def gS_126_m : List (Nat × Nat) := [(5, 2), (5, 3), (5, 4), (5, 5), (5, 6), (5, 7)]
theorem f_126 {xs : Nat → Int} {Ln d : Nat} {T : List cK} {M : cM} (hT : TT T) (hI : Rng M) {t : Nat} (ht : t = 8 ∨ t = 25) (h50 : M 5 0 = ((2 : Nat) : Int)) {w : Int} {s : Nat → Int} {n p : Int} {D : cM} (hL : LxA M s n p) (hD : owD M t = D) (hW : DW D) (p0 : 0 ≤ w ∧ w ≤ 9) : cC k_P xs Ln (d + 3) 126 [rf 3, rf t, (0, w)] (T, M) (qW T M gS_126_m 0 (fun v M1 => (v = owRi s n D (owE s n p) ∧ 0 ≤ v ∧ v < D 0 0 ∧ owHm s n D p w = 0 ∧ LxA M1 s n (owE s n (owE s n p))) ∨ (v = -1 ∧ owHm s n D p w ≠ 0 ∧ Flt M1 (owHm s n D p w)))) := by
  show cP k_P xs Ln (d + 3) 126 0 [(0, rf 3), (1, rf t), (2, (0, w))] [] (T, M) _
  have hFm : Fr gS_126_m M M := Fr.refl
  have ⟨hs, h51, h0, hpn, h53, h55, h5f, h5g, h5v⟩ := hL
  have h51r := rg_5_1 hI
  have hw := hW.1
  have hw2 := hW.2.1
  have hw3 := hW.2.2.1
  have hw4 := hW.2.2.2.1
  have ht0 : M t 0 = D 0 0 := owD_at (k := 0) hD (by decide)
  have ht1 : M t 1 = D 0 1 := owD_at (k := 0) hD (by decide)
  have hvn := @owV_name s n p hpn
  refine s_aload_n kx_126_0 rfl ?_
  refine r_getR (k := 3) (f := 1) (k2 := 5) kx_126_1 kp_126_22 (tk_3 hT) kf_10_1 (by decide) (rq_3_1 hI) ?_
  refine s_ldc kx_126_4 kp_126_143 ?_
  refine s_callV2 (k := 5) (s1 := 2) (s2 := 0) (as := [(0, 54525952)]) (rest := []) kx_126_6 kp_126_144 (Or.inl rfl) rfl (tk_5 hT) ki_22 kcl_22 rfl rfl (by decide) (f_22 (d := d + 2) (w := 54525952) hT hI hL) (kF (fun v1 v1p => ?_))
  refine s_if_ne (t := 22) kx_126_9 (by decide) (fun hc2 => ?_) (fun hc2 => ?_)
  · replace v1p := v1p.resolve_right (by omega)
    refine s_aload_n kx_126_22 rfl ?_
    refine r_getR (k := 3) (f := 1) (k2 := 5) kx_126_23 kp_126_22 (tk_3 hT) kf_10_1 (by decide) (rq_3_1 hI) ?_
    refine s_callV2 (k := 5) (s1 := 1) (s2 := 0) (as := []) (rest := []) kx_126_26 kp_126_49 (Or.inl rfl) rfl (tk_5 hT) ki_26 kcl_26 rfl rfl (by decide) (f_26 (d := d) hT hI h50 (LxA.nx hL (by omega) (by omega))) (kV (fun M4 hI4 fr4 v3p => ?_))
    have hFm4 := hFm.call fr4 rfl
    have la5 := v3p.1
    have ⟨la5a, la5b, la5c, la5d, la5e, la5f, la5g, la5h, la5i⟩ := la5
    refine s_aload_n kx_126_29 rfl ?_
    refine s_aload_n kx_126_30 rfl ?_
    refine s_callV2 (k := 3) (s1 := 2) (s2 := 0) (as := [rf t]) (rest := []) kx_126_31 kp_126_122 (Or.inl rfl) rfl (tk_3 hT) ki_133 kcl_133 rfl rfl (by decide) (f_133 (d := d) hT hI4 ht v3p.1 (owD_fr hD ht fr4 rfl) hW) (kW (fun v6 M7 hI7 fr7 v6p => ?_))
    have hFm7 := hFm4.call fr7 rfl
    refine s_istore_n kx_126_34 km_126_3 rfl ?_
    refine s_iload_n kx_126_35 rfl ?_
    refine s_iconst (v := (-1)) kx_126_36 (by decide) ?_
    refine s_icmp_ne (t := 42) kx_126_37 (by decide) (fun hc8 => ?_) (fun hc8 => ?_)
    · replace v6p := v6p.resolve_right (by omega)
      refine s_aload_n kx_126_42 rfl ?_
      refine s_iload_n kx_126_43 rfl ?_
      refine s_iload_n kx_126_44 rfl ?_
      refine s_callV2 (k := t) (s1 := 3) (s2 := 0) (as := [(0, w), (0, v6)]) (rest := []) kx_126_45 kp_126_148 (Or.inl rfl) rfl (tkt_0 hT ht) ki_115 kcl_115 rfl rfl (by decide) (f_115 (d := d + 1) (room := v6) (w := w) hT hI7 ht (owD_fr (owD_fr hD ht fr4 rfl) ht fr7 rfl) hW (by omega) (by omega)) (kF (fun v9 v9p => ?_))
      rw [v6p.1] at v9p
      refine s_if_ne (t := 69) kx_126_48 (by decide) (fun hc10 => ?_) (fun hc10 => ?_)
      · replace v9p := v9p.resolve_right (by omega)
        refine s_aload_n kx_126_69 rfl ?_
        refine r_getR (k := 3) (f := 1) (k2 := 5) kx_126_70 kp_126_22 (tk_3 hT) kf_10_1 (by decide) (rq_3_1 hI7) ?_
        refine s_callV2 (k := 5) (s1 := 1) (s2 := 0) (as := []) (rest := []) kx_126_73 kp_126_49 (Or.inl rfl) rfl (tk_5 hT) ki_26 kcl_26 rfl rfl (by decide) (f_26 (d := d) hT hI7 ((fr7 5 0 rfl).trans ((fr4 5 0 rfl).trans h50)) (LxA.nx v6p.2.2.2.2.2 (by omega) (by omega))) (kV (fun M12 hI12 fr12 v11p => ?_))
        have hFm12 := hFm7.call fr12 rfl
        have la13 := v11p.1
        have ⟨la13a, la13b, la13c, la13d, la13e, la13f, la13g, la13h, la13i⟩ := la13
        refine s_iload_n kx_126_76 rfl ?_
        exact s_iret kx_126_77 (Or.inl kq_126) ⟨_, _, rfl, rfl, hI12, hFm12, (Or.inl ⟨by omega, by omega, by omega, (by unfold owHm; (repeat' split) <;> omega), v11p.1⟩)⟩
      · replace v9p := v9p.resolve_left (by omega)
        refine s_aload_n kx_126_51 rfl ?_
        refine r_getR (k := 3) (f := 1) (k2 := 5) kx_126_52 kp_126_22 (tk_3 hT) kf_10_1 (by decide) (rq_3_1 hI7) ?_
        refine s_iconst (v := 3) kx_126_55 (by decide) ?_
        refine s_aload_n kx_126_56 rfl ?_
        refine r_getR (k := 3) (f := 1) (k2 := 5) kx_126_57 kp_126_22 (tk_3 hT) kf_10_1 (by decide) (rq_3_1 hI7) ?_
        refine r_getI (k := 5) (f := 5) kx_126_60 kp_126_105 (tk_5 hT) kf_3_5 (fun _ => rfl) (rg_5_5 hI7) (fun v14 v14e v14a v14b => ?_)
        have hk15 : M7 5 5 = v14 := v14e
        refine s_callV2 (k := 5) (s1 := 3) (s2 := 0) (as := [(0, v14), (0, 3)]) (rest := []) kx_126_63 kp_126_45 (Or.inl rfl) rfl (tk_5 hT) ki_20 kcl_20 rfl rfl (by decide) (f_20 (d := d + 2) (kind := 3) (place := v14) hT hI7) (kW (fun v16 M17 hI17 fr17 v16p => ?_))
        have hFm17 := hFm7.call fr17 rfl
        refine s_pop kx_126_66 rfl ?_
        refine s_iconst (v := (-1)) kx_126_67 (by decide) ?_
        exact s_iret kx_126_68 (Or.inl kq_126) ⟨_, _, rfl, rfl, hI17, hFm17, (Or.inr ⟨by omega, (owFl (LxA.fl v6p.2.2.2.2.2 (by omega) (by omega) (by omega) v16p.2.2 (by decide) rfl) (by unfold owHm; (repeat' split) <;> omega))⟩)⟩
    · replace v6p := v6p.resolve_left (by omega)
      refine s_iconst (v := (-1)) kx_126_40 (by decide) ?_
      exact s_iret kx_126_41 (Or.inl kq_126) ⟨_, _, rfl, rfl, hI7, hFm7, (Or.inr ⟨by omega, (owFl v6p.2 (by unfold owHm; (repeat' split) <;> omega))⟩)⟩
  · replace v1p := v1p.resolve_left (by omega)
    refine s_aload_n kx_126_12 rfl ?_
    refine r_getR (k := 3) (f := 1) (k2 := 5) kx_126_13 kp_126_22 (tk_3 hT) kf_10_1 (by decide) (rq_3_1 hI) ?_
    refine s_callV2 (k := 5) (s1 := 1) (s2 := 0) (as := []) (rest := []) kx_126_16 kp_126_60 (Or.inl rfl) rfl (tk_5 hT) ki_21 kcl_21 rfl rfl (by decide) (f_21 (d := d + 1) hT hI) (kW (fun v18 M19 hI19 fr19 v18p => ?_))
    have hFm19 := hFm.call fr19 rfl
    refine s_pop kx_126_19 rfl ?_
    refine s_iconst (v := (-1)) kx_126_20 (by decide) ?_
    exact s_iret kx_126_21 (Or.inl kq_126) ⟨_, _, rfl, rfl, hI19, hFm19, (Or.inr ⟨by omega, (owFl ⟨(by have := owU_pos (s := s) (n := n) (p := _) (hL).2.2.1; omega), LxA.un hL (by omega) v18p.2.2⟩ (by unfold owHm; (repeat' split) <;> omega))⟩)⟩
def gS_123_m : List (Nat × Nat) := [(10, 99999), (11, 99999), (25, 0), (26, 99999), (27, 99999), (28, 99999), (3, 2), (5, 2), (5, 3), (5, 4), (5, 5), (5, 6), (5, 7), (8, 0), (9, 99999)]
theorem f_123 {xs : Nat → Int} {Ln d : Nat} {T : List cK} {M : cM} (hT : TT T) (hI : Rng M) {t : Nat} (ht : t = 8 ∨ t = 25) (h50 : M 5 0 = ((2 : Nat) : Int)) {s : Nat → Int} {n p : Int} {D : cM} (hL : LxA M s n p) (hD : owD M t = D) (hW : DW D) {uX : Nat} {WX : cM} (hux : uX = 8 ∧ t = 25 ∨ uX = 25 ∧ t = 8) (hKX : KT uX WX M) (p0 : 1 ≤ owK s n p ∧ owK s n p ≤ 4) : cC k_P xs Ln (d + 4) 123 [rf 3, rf t] (T, M) (qW T M gS_123_m 0 (fun v M1 => ((v = 1 ∧ owRoomF s n D p = 0 ∧ LxA M1 s n (owRoomP s n p) ∧ owD M1 t = owRoomD s n D p) ∨ (v = 0 ∧ owRoomF s n D p ≠ 0 ∧ Flt M1 (owRoomF s n D p))) ∧ KT uX WX M1)) := by
  show cP k_P xs Ln (d + 4) 123 0 [(0, rf 3), (1, rf t)] [] (T, M) _
  have hFm : Fr gS_123_m M M := Fr.refl
  have ⟨hs, h51, h0, hpn, h53, h55, h5f, h5g, h5v⟩ := hL
  have h51r := rg_5_1 hI
  have hw := hW.1
  have hw2 := hW.2.1
  have hw3 := hW.2.2.1
  have hw4 := hW.2.2.2.1
  have ht0 : M t 0 = D 0 0 := owD_at (k := 0) hD (by decide)
  have ht1 : M t 1 = D 0 1 := owD_at (k := 0) hD (by decide)
  have hvn := @owV_name s n p hpn
  refine s_aload_n kx_123_0 rfl ?_
  refine r_getI (k := t) (f := 0) kx_123_1 kp_123_102 (tkt_0 hT ht) kf_9_0 (fun _ => rfl) (rgt_0_0 hI ht) (fun v1 v1e v1a v1b => ?_)
  have v1d : D 0 0 = v1 := (owD_at (k := 0) hD (by decide)).symm.trans v1e
  refine s_bipush (v := 8) kx_123_4 (by decide) ?_
  refine s_icmp_lt (t := 26) kx_123_6 (by decide) (fun hc2 => ?_) (fun hc2 => ?_)
  · refine s_aload_n kx_123_26 rfl ?_
    refine r_getR (k := 3) (f := 1) (k2 := 5) kx_123_27 kp_123_22 (tk_3 hT) kf_10_1 (by decide) (rq_3_1 hI) ?_
    refine s_callV2 (k := 5) (s1 := 1) (s2 := 0) (as := []) (rest := []) kx_123_30 kp_123_49 (Or.inl rfl) rfl (tk_5 hT) ki_26 kcl_26 rfl rfl (by decide) (f_26 (d := d + 1) hT hI h50 (LxA.nx hL (by omega) (by omega))) (kV (fun M4 hI4 fr4 v3p => ?_))
    have hFm4 := hFm.call fr4 rfl
    have tr5 := (fr4 3 2 rfl)
    have la6 := v3p.1
    have ⟨la6a, la6b, la6c, la6d, la6e, la6f, la6g, la6h, la6i⟩ := la6
    refine s_aload_n kx_123_33 rfl ?_
    refine s_aload_n kx_123_34 rfl ?_
    refine s_callV2 (k := 3) (s1 := 2) (s2 := 0) (as := [rf t]) (rest := []) kx_123_35 kp_123_108 (Or.inl rfl) rfl (tk_3 hT) ki_132 kcl_132 rfl rfl (by decide) (f_132 (d := d + 1) hT hI4 ht v3p.1 (owD_fr hD ht fr4 rfl) hW) (kW (fun v7 M8 hI8 fr8 v7p => ?_))
    have hFm8 := hFm4.call fr8 rfl
    have tr9 := (fr8 3 2 rfl)
    refine s_istore_n kx_123_38 km_123_2 rfl ?_
    refine s_iload_n kx_123_39 rfl ?_
    refine s_iconst (v := (-1)) kx_123_40 (by decide) ?_
    refine s_icmp_ne (t := 46) kx_123_41 (by decide) (fun hc10 => ?_) (fun hc10 => ?_)
    · replace v7p := v7p.resolve_right (by omega)
      refine s_aload_n kx_123_46 rfl ?_
      refine r_getR (k := 3) (f := 1) (k2 := 5) kx_123_47 kp_123_22 (tk_3 hT) kf_10_1 (by decide) (rq_3_1 hI8) ?_
      refine s_callV2 (k := 5) (s1 := 1) (s2 := 0) (as := []) (rest := []) kx_123_50 kp_123_49 (Or.inl rfl) rfl (tk_5 hT) ki_26 kcl_26 rfl rfl (by decide) (f_26 (d := d + 1) hT hI8 ((fr8 5 0 rfl).trans ((fr4 5 0 rfl).trans h50)) (LxA.nx v7p.2.2.2.2 (by omega) (by omega))) (kV (fun M12 hI12 fr12 v11p => ?_))
      have hFm12 := hFm8.call fr12 rfl
      have tr13 := (fr12 3 2 rfl)
      have la14 := v11p.1
      have ⟨la14a, la14b, la14c, la14d, la14e, la14f, la14g, la14h, la14i⟩ := la14
      refine s_aload_n kx_123_53 rfl ?_
      refine s_ldc kx_123_54 kp_123_112 ?_
      refine s_iconst (v := 1) kx_123_56 (by decide) ?_
      refine s_bipush (v := 9) kx_123_57 (by decide) ?_
      refine s_callV2 (k := 3) (s1 := 4) (s2 := 0) (as := [(0, 9), (0, 1), (0, 150456320)]) (rest := []) kx_123_59 kp_123_113 (Or.inl rfl) rfl (tk_3 hT) ki_131 kcl_131 rfl rfl (by decide) (f_131 (d := d) (word := 150456320) (least := 1) (most := 9) hT hI12 ((fr12 5 0 rfl).trans ((fr8 5 0 rfl).trans ((fr4 5 0 rfl).trans h50))) v11p.1) (kW (fun v15 M16 hI16 fr16 v15p => ?_))
      have hFm16 := hFm12.call fr16 rfl
      refine s_if_ne (t := 67) kx_123_62 (by decide) (fun hc17 => ?_) (fun hc17 => ?_)
      · replace v15p := v15p.resolve_right (by omega)
        refine s_aload_n kx_123_67 rfl ?_
        refine r_getU (k := 3) (f := 2) kx_123_68 kp_123_23 (tk_3 hT) kf_10_2 (fun _ => rfl) (fun v18 v18e => ?_)
        refine s_istore_n kx_123_71 km_123_3 rfl ?_
        refine s_aload_n kx_123_72 rfl ?_
        refine s_ldc kx_123_73 kp_123_117 ?_
        refine s_iconst (v := 1) kx_123_75 (by decide) ?_
        refine s_bipush (v := 99) kx_123_76 (by decide) ?_
        refine s_callV2 (k := 3) (s1 := 4) (s2 := 0) (as := [(0, 99), (0, 1), (0, 214416960)]) (rest := []) kx_123_78 kp_123_113 (Or.inl rfl) rfl (tk_3 hT) ki_131 kcl_131 rfl rfl (by decide) (f_131 (d := d) (word := 214416960) (least := 1) (most := 99) hT hI16 ((fr16 5 0 rfl).trans ((fr12 5 0 rfl).trans ((fr8 5 0 rfl).trans ((fr4 5 0 rfl).trans h50)))) v15p.2.2.2) (kW (fun v19 M20 hI20 fr20 v19p => ?_))
        have hFm20 := hFm16.call fr20 rfl
        refine s_if_ne (t := 86) kx_123_81 (by decide) (fun hc21 => ?_) (fun hc21 => ?_)
        · replace v19p := v19p.resolve_right (by omega)
          refine s_aload_n kx_123_86 rfl ?_
          refine s_iload_n kx_123_87 rfl ?_
          refine s_iload_n kx_123_88 rfl ?_
          refine s_aload_n kx_123_89 rfl ?_
          refine r_getU (k := 3) (f := 2) kx_123_90 kp_123_23 (tk_3 hT) kf_10_2 (fun _ => rfl) (fun v22 v22e => ?_)
          refine s_callV2 (k := t) (s1 := 4) (s2 := 0) (as := [(0, v22), (0, v18), (0, v7)]) (rest := []) kx_123_93 kp_123_118 (Or.inl rfl) rfl (tkt_0 hT ht) ki_111 kcl_111 rfl rfl (by decide) (f_111 (d := d + 3) (name := v7) (door := v18) (floor := v22) hT hI20 ht (owD_fr (owD_fr (owD_fr (owD_fr (owD_fr hD ht fr4 rfl) ht fr8 rfl) ht fr12 rfl) ht fr16 rfl) ht fr20 rfl) hW hux (KT.fr (KT.fr (KT.fr (KT.fr (KT.fr hKX fr4 ht hux rfl) fr8 ht hux rfl) fr12 ht hux rfl) fr16 ht hux rfl) fr20 ht hux rfl) (by omega)) (kV (fun M24 hI24 fr24 v23p => ?_))
          have hFm24 := hFm20.call fr24 rfl
          have tr25 := (fr24 3 2 rfl)
          have v23pk := v23p.2
          (replace v23p := v23p.1)
          refine s_iconst (v := 1) kx_123_96 (by decide) ?_
          exact s_iret kx_123_97 (Or.inr ⟨kq_123, by omega⟩) ⟨_, _, rfl, rfl, hI24, hFm24, ⟨(Or.inl ⟨rfl, (by unfold owRoomF; (repeat' split) <;> omega), (LxA.fr v19p.2.2.2 fr24 rfl), (by show owD M24 t = _; rw [v23p]; unfold owRoomD; congr 1 <;> omega)⟩), v23pk⟩⟩
        · replace v19p := v19p.resolve_left (by omega)
          refine s_iconst (v := 0) kx_123_84 (by decide) ?_
          exact s_iret kx_123_85 (Or.inr ⟨kq_123, by omega⟩) ⟨_, _, rfl, rfl, hI20, hFm20, ⟨(Or.inr ⟨by omega, (owFl v19p.2 (by unfold owRoomF; (repeat' split) <;> omega))⟩), (KT.fr (KT.fr (KT.fr (KT.fr (KT.fr hKX fr4 ht hux rfl) fr8 ht hux rfl) fr12 ht hux rfl) fr16 ht hux rfl) fr20 ht hux rfl)⟩⟩
      · replace v15p := v15p.resolve_left (by omega)
        refine s_iconst (v := 0) kx_123_65 (by decide) ?_
        exact s_iret kx_123_66 (Or.inr ⟨kq_123, by omega⟩) ⟨_, _, rfl, rfl, hI16, hFm16, ⟨(Or.inr ⟨by omega, (owFl v15p.2 (by unfold owRoomF; (repeat' split) <;> omega))⟩), (KT.fr (KT.fr (KT.fr (KT.fr hKX fr4 ht hux rfl) fr8 ht hux rfl) fr12 ht hux rfl) fr16 ht hux rfl)⟩⟩
    · replace v7p := v7p.resolve_left (by omega)
      refine s_iconst (v := 0) kx_123_44 (by decide) ?_
      exact s_iret kx_123_45 (Or.inr ⟨kq_123, by omega⟩) ⟨_, _, rfl, rfl, hI8, hFm8, ⟨(Or.inr ⟨by omega, (owFl v7p.2 (by unfold owRoomF; (repeat' split) <;> omega))⟩), (KT.fr (KT.fr hKX fr4 ht hux rfl) fr8 ht hux rfl)⟩⟩
  · refine s_aload_n kx_123_9 rfl ?_
    refine r_getR (k := 3) (f := 1) (k2 := 5) kx_123_10 kp_123_22 (tk_3 hT) kf_10_1 (by decide) (rq_3_1 hI) ?_
    refine s_bipush (v := 6) kx_123_13 (by decide) ?_
    refine s_aload_n kx_123_15 rfl ?_
    refine r_getR (k := 3) (f := 1) (k2 := 5) kx_123_16 kp_123_22 (tk_3 hT) kf_10_1 (by decide) (rq_3_1 hI) ?_
    refine r_getI (k := 5) (f := 5) kx_123_19 kp_123_105 (tk_5 hT) kf_3_5 (fun _ => rfl) (rg_5_5 hI) (fun v26 v26e v26a v26b => ?_)
    have hk27 : M 5 5 = v26 := v26e
    refine s_callV2 (k := 5) (s1 := 3) (s2 := 0) (as := [(0, v26), (0, 6)]) (rest := []) kx_123_22 kp_123_45 (Or.inl rfl) rfl (tk_5 hT) ki_20 kcl_20 rfl rfl (by decide) (f_20 (d := d + 3) (kind := 6) (place := v26) hT hI) (kW (fun v28 M29 hI29 fr29 v28p => ?_))
    have hFm29 := hFm.call fr29 rfl
    have tr30 := (fr29 3 2 rfl)
    exact s_iret kx_123_25 (Or.inr ⟨kq_123, by omega⟩) ⟨_, _, rfl, rfl, hI29, hFm29, ⟨(Or.inr ⟨by omega, (owFl (LxA.fl hL (by omega) (by omega) (by omega) v28p.2.2 (by decide) rfl) (by unfold owRoomF; (repeat' split) <;> omega))⟩), (KT.fr hKX fr29 ht hux rfl)⟩⟩
def gS_124_m : List (Nat × Nat) := [(12, 99999), (29, 99999), (3, 2), (5, 2), (5, 3), (5, 4), (5, 5), (5, 6), (5, 7)]
theorem f_124 {xs : Nat → Int} {Ln d : Nat} {T : List cK} {M : cM} (hT : TT T) (hI : Rng M) {t : Nat} (ht : t = 8 ∨ t = 25) (h50 : M 5 0 = ((2 : Nat) : Int)) {s : Nat → Int} {n p : Int} {D : cM} (hL : LxA M s n p) (hD : owD M t = D) (hW : DW D) {uX : Nat} {WX : cM} (hux : uX = 8 ∧ t = 25 ∨ uX = 25 ∧ t = 8) (hKX : KT uX WX M) (p0 : 1 ≤ owK s n p ∧ owK s n p ≤ 4) : cC k_P xs Ln (d + 4) 124 [rf 3, rf t] (T, M) (qW T M gS_124_m 0 (fun v M1 => ((v = 1 ∧ owWayF s n D p = 0 ∧ LxA M1 s n (owWayP s n p) ∧ owD M1 t = owWayD s n D p) ∨ (v = 0 ∧ owWayF s n D p ≠ 0 ∧ Flt M1 (owWayF s n D p))) ∧ KT uX WX M1)) := by
  show cP k_P xs Ln (d + 4) 124 0 [(0, rf 3), (1, rf t)] [] (T, M) _
  have hFm : Fr gS_124_m M M := Fr.refl
  have ⟨hs, h51, h0, hpn, h53, h55, h5f, h5g, h5v⟩ := hL
  have h51r := rg_5_1 hI
  have hw := hW.1
  have hw2 := hW.2.1
  have hw3 := hW.2.2.1
  have hw4 := hW.2.2.2.1
  have ht0 : M t 0 = D 0 0 := owD_at (k := 0) hD (by decide)
  have ht1 : M t 1 = D 0 1 := owD_at (k := 0) hD (by decide)
  have hvn := @owV_name s n p hpn
  refine s_aload_n kx_124_0 rfl ?_
  refine r_getR (k := 3) (f := 1) (k2 := 5) kx_124_1 kp_124_22 (tk_3 hT) kf_10_1 (by decide) (rq_3_1 hI) ?_
  refine s_callV2 (k := 5) (s1 := 1) (s2 := 0) (as := []) (rest := []) kx_124_4 kp_124_49 (Or.inl rfl) rfl (tk_5 hT) ki_26 kcl_26 rfl rfl (by decide) (f_26 (d := d + 1) hT hI h50 (LxA.nx hL (by omega) (by omega))) (kV (fun M2 hI2 fr2 v1p => ?_))
  have hFm2 := hFm.call fr2 rfl
  have tr3 := (fr2 3 2 rfl)
  have la4 := v1p.1
  have ⟨la4a, la4b, la4c, la4d, la4e, la4f, la4g, la4h, la4i⟩ := la4
  refine s_aload_n kx_124_7 rfl ?_
  refine s_aload_n kx_124_8 rfl ?_
  refine s_callV2 (k := 3) (s1 := 2) (s2 := 0) (as := [rf t]) (rest := []) kx_124_9 kp_124_122 (Or.inl rfl) rfl (tk_3 hT) ki_133 kcl_133 rfl rfl (by decide) (f_133 (d := d + 1) hT hI2 ht v1p.1 (owD_fr hD ht fr2 rfl) hW) (kW (fun v5 M6 hI6 fr6 v5p => ?_))
  have hFm6 := hFm2.call fr6 rfl
  have tr7 := (fr6 3 2 rfl)
  refine s_istore_n kx_124_12 km_124_2 rfl ?_
  refine s_iload_n kx_124_13 rfl ?_
  refine s_iconst (v := (-1)) kx_124_14 (by decide) ?_
  refine s_icmp_ne (t := 20) kx_124_15 (by decide) (fun hc8 => ?_) (fun hc8 => ?_)
  · replace v5p := v5p.resolve_right (by omega)
    refine s_aload_n kx_124_20 rfl ?_
    refine r_getR (k := 3) (f := 1) (k2 := 5) kx_124_21 kp_124_22 (tk_3 hT) kf_10_1 (by decide) (rq_3_1 hI6) ?_
    refine s_callV2 (k := 5) (s1 := 1) (s2 := 0) (as := []) (rest := []) kx_124_24 kp_124_49 (Or.inl rfl) rfl (tk_5 hT) ki_26 kcl_26 rfl rfl (by decide) (f_26 (d := d + 1) hT hI6 ((fr6 5 0 rfl).trans ((fr2 5 0 rfl).trans h50)) (LxA.nx v5p.2.2.2.2.2 (by omega) (by omega))) (kV (fun M10 hI10 fr10 v9p => ?_))
    have hFm10 := hFm6.call fr10 rfl
    have tr11 := (fr10 3 2 rfl)
    have la12 := v9p.1
    have ⟨la12a, la12b, la12c, la12d, la12e, la12f, la12g, la12h, la12i⟩ := la12
    refine s_aload_n kx_124_27 rfl ?_
    refine s_aload_n kx_124_28 rfl ?_
    refine s_callV2 (k := 3) (s1 := 2) (s2 := 0) (as := [rf t]) (rest := []) kx_124_29 kp_124_122 (Or.inl rfl) rfl (tk_3 hT) ki_133 kcl_133 rfl rfl (by decide) (f_133 (d := d + 1) hT hI10 ht v9p.1 (owD_fr (owD_fr (owD_fr hD ht fr2 rfl) ht fr6 rfl) ht fr10 rfl) hW) (kW (fun v13 M14 hI14 fr14 v13p => ?_))
    have hFm14 := hFm10.call fr14 rfl
    have tr15 := (fr14 3 2 rfl)
    refine s_istore_n kx_124_32 km_124_3 rfl ?_
    refine s_iload_n kx_124_33 rfl ?_
    refine s_iconst (v := (-1)) kx_124_34 (by decide) ?_
    refine s_icmp_ne (t := 40) kx_124_35 (by decide) (fun hc16 => ?_) (fun hc16 => ?_)
    · replace v13p := v13p.resolve_right (by omega)
      refine s_iload_n kx_124_40 rfl ?_
      refine s_iload_n kx_124_41 rfl ?_
      refine s_icmp_ne (t := 61) kx_124_42 (by decide) (fun hc17 => ?_) (fun hc17 => ?_)
      · refine s_aload_n kx_124_61 rfl ?_
        refine r_getR (k := 3) (f := 1) (k2 := 5) kx_124_62 kp_124_22 (tk_3 hT) kf_10_1 (by decide) (rq_3_1 hI14) ?_
        refine s_callV2 (k := 5) (s1 := 1) (s2 := 0) (as := []) (rest := []) kx_124_65 kp_124_49 (Or.inl rfl) rfl (tk_5 hT) ki_26 kcl_26 rfl rfl (by decide) (f_26 (d := d + 1) hT hI14 ((fr14 5 0 rfl).trans ((fr10 5 0 rfl).trans ((fr6 5 0 rfl).trans ((fr2 5 0 rfl).trans h50)))) (LxA.nx v13p.2.2.2.2.2 (by omega) (by omega))) (kV (fun M19 hI19 fr19 v18p => ?_))
        have hFm19 := hFm14.call fr19 rfl
        have tr20 := (fr19 3 2 rfl)
        have la21 := v18p.1
        have ⟨la21a, la21b, la21c, la21d, la21e, la21f, la21g, la21h, la21i⟩ := la21
        refine s_aload_n kx_124_68 rfl ?_
        refine s_ldc kx_124_69 kp_124_125 ?_
        refine s_iconst (v := 1) kx_124_71 (by decide) ?_
        refine s_bipush (v := 60) kx_124_72 (by decide) ?_
        refine s_callV2 (k := 3) (s1 := 4) (s2 := 0) (as := [(0, 60), (0, 1), (0, 672503392)]) (rest := []) kx_124_74 kp_124_113 (Or.inl rfl) rfl (tk_3 hT) ki_131 kcl_131 rfl rfl (by decide) (f_131 (d := d) (word := 672503392) (least := 1) (most := 60) hT hI19 ((fr19 5 0 rfl).trans ((fr14 5 0 rfl).trans ((fr10 5 0 rfl).trans ((fr6 5 0 rfl).trans ((fr2 5 0 rfl).trans h50))))) v18p.1) (kW (fun v22 M23 hI23 fr23 v22p => ?_))
        have hFm23 := hFm19.call fr23 rfl
        refine s_if_ne (t := 82) kx_124_77 (by decide) (fun hc24 => ?_) (fun hc24 => ?_)
        · replace v22p := v22p.resolve_right (by omega)
          refine s_aload_n kx_124_82 rfl ?_
          refine s_iload_n kx_124_83 rfl ?_
          refine s_iload_n kx_124_84 rfl ?_
          refine s_aload_n kx_124_85 rfl ?_
          refine r_getU (k := 3) (f := 2) kx_124_86 kp_124_23 (tk_3 hT) kf_10_2 (fun _ => rfl) (fun v25 v25e => ?_)
          refine s_callV2 (k := t) (s1 := 4) (s2 := 0) (as := [(0, v25), (0, v13), (0, v5)]) (rest := []) kx_124_89 kp_124_126 (Or.inl rfl) rfl (tkt_0 hT ht) ki_112 kcl_112 rfl rfl (by decide) (f_112 (d := d + 2) (from_ := v5) (to := v13) (mins := v25) hT hI23 ht (owD_fr (owD_fr (owD_fr (owD_fr (owD_fr (owD_fr hD ht fr2 rfl) ht fr6 rfl) ht fr10 rfl) ht fr14 rfl) ht fr19 rfl) ht fr23 rfl) hW hux (KT.fr (KT.fr (KT.fr (KT.fr (KT.fr (KT.fr hKX fr2 ht hux rfl) fr6 ht hux rfl) fr10 ht hux rfl) fr14 ht hux rfl) fr19 ht hux rfl) fr23 ht hux rfl) (by omega) (by omega)) (kV (fun M27 hI27 fr27 v26p => ?_))
          have hFm27 := hFm23.call fr27 rfl
          have tr28 := (fr27 3 2 rfl)
          have v26pk := v26p.2
          (replace v26p := v26p.1)
          refine s_iconst (v := 1) kx_124_92 (by decide) ?_
          exact s_iret kx_124_93 (Or.inr ⟨kq_124, by omega⟩) ⟨_, _, rfl, rfl, hI27, hFm27, ⟨(Or.inl ⟨rfl, (by unfold owWayF; (repeat' split) <;> omega), (LxA.fr v22p.2.2.2 fr27 rfl), (by show owD M27 t = _; rw [v26p]; unfold owWayD; congr 1 <;> omega)⟩), v26pk⟩⟩
        · replace v22p := v22p.resolve_left (by omega)
          refine s_iconst (v := 0) kx_124_80 (by decide) ?_
          exact s_iret kx_124_81 (Or.inr ⟨kq_124, by omega⟩) ⟨_, _, rfl, rfl, hI23, hFm23, ⟨(Or.inr ⟨by omega, (owFl v22p.2 (by unfold owWayF; (repeat' split) <;> omega))⟩), (KT.fr (KT.fr (KT.fr (KT.fr (KT.fr (KT.fr hKX fr2 ht hux rfl) fr6 ht hux rfl) fr10 ht hux rfl) fr14 ht hux rfl) fr19 ht hux rfl) fr23 ht hux rfl)⟩⟩
      · refine s_aload_n kx_124_45 rfl ?_
        refine r_getR (k := 3) (f := 1) (k2 := 5) kx_124_46 kp_124_22 (tk_3 hT) kf_10_1 (by decide) (rq_3_1 hI14) ?_
        refine s_iconst (v := 3) kx_124_49 (by decide) ?_
        refine s_aload_n kx_124_50 rfl ?_
        refine r_getR (k := 3) (f := 1) (k2 := 5) kx_124_51 kp_124_22 (tk_3 hT) kf_10_1 (by decide) (rq_3_1 hI14) ?_
        refine r_getI (k := 5) (f := 5) kx_124_54 kp_124_105 (tk_5 hT) kf_3_5 (fun _ => rfl) (rg_5_5 hI14) (fun v29 v29e v29a v29b => ?_)
        have hk30 : M14 5 5 = v29 := v29e
        refine s_callV2 (k := 5) (s1 := 3) (s2 := 0) (as := [(0, v29), (0, 3)]) (rest := []) kx_124_57 kp_124_45 (Or.inl rfl) rfl (tk_5 hT) ki_20 kcl_20 rfl rfl (by decide) (f_20 (d := d + 3) (kind := 3) (place := v29) hT hI14) (kW (fun v31 M32 hI32 fr32 v31p => ?_))
        have hFm32 := hFm14.call fr32 rfl
        have tr33 := (fr32 3 2 rfl)
        exact s_iret kx_124_60 (Or.inr ⟨kq_124, by omega⟩) ⟨_, _, rfl, rfl, hI32, hFm32, ⟨(Or.inr ⟨by omega, (owFl (LxA.fl v13p.2.2.2.2.2 (by omega) (by omega) (by omega) v31p.2.2 (by decide) rfl) (by unfold owWayF; (repeat' split) <;> omega))⟩), (KT.fr (KT.fr (KT.fr (KT.fr (KT.fr hKX fr2 ht hux rfl) fr6 ht hux rfl) fr10 ht hux rfl) fr14 ht hux rfl) fr32 ht hux rfl)⟩⟩
    · replace v13p := v13p.resolve_left (by omega)
      refine s_iconst (v := 0) kx_124_38 (by decide) ?_
      exact s_iret kx_124_39 (Or.inr ⟨kq_124, by omega⟩) ⟨_, _, rfl, rfl, hI14, hFm14, ⟨(Or.inr ⟨by omega, (owFl v13p.2 (by unfold owWayF; (repeat' split) <;> omega))⟩), (KT.fr (KT.fr (KT.fr (KT.fr hKX fr2 ht hux rfl) fr6 ht hux rfl) fr10 ht hux rfl) fr14 ht hux rfl)⟩⟩
  · replace v5p := v5p.resolve_left (by omega)
    refine s_iconst (v := 0) kx_124_18 (by decide) ?_
    exact s_iret kx_124_19 (Or.inr ⟨kq_124, by omega⟩) ⟨_, _, rfl, rfl, hI6, hFm6, ⟨(Or.inr ⟨by omega, (owFl v5p.2 (by unfold owWayF; (repeat' split) <;> omega))⟩), (KT.fr (KT.fr hKX fr2 ht hux rfl) fr6 ht hux rfl)⟩⟩
def gS_125_m : List (Nat × Nat) := [(13, 99999), (14, 99999), (15, 99999), (16, 99999), (17, 99999), (18, 99999), (25, 1), (3, 2), (30, 99999), (31, 99999), (32, 99999), (33, 99999), (34, 99999), (35, 99999), (5, 2), (5, 3), (5, 4), (5, 5), (5, 6), (5, 7), (8, 1)]
theorem f_125 {xs : Nat → Int} {Ln d : Nat} {T : List cK} {M : cM} (hT : TT T) (hI : Rng M) {t : Nat} (ht : t = 8 ∨ t = 25) (h50 : M 5 0 = ((2 : Nat) : Int)) {s : Nat → Int} {n p : Int} {D : cM} (hL : LxA M s n p) (hD : owD M t = D) (hW : DW D) {uX : Nat} {WX : cM} (hux : uX = 8 ∧ t = 25 ∨ uX = 25 ∧ t = 8) (hKX : KT uX WX M) (p0 : 1 ≤ owK s n p ∧ owK s n p ≤ 4) : cC k_P xs Ln (d + 4) 125 [rf 3, rf t] (T, M) (qW T M gS_125_m 0 (fun v M1 => ((v = 1 ∧ owPerF s n D p = 0 ∧ LxA M1 s n (owPerP s n p) ∧ owD M1 t = owPerD s n D p) ∨ (v = 0 ∧ owPerF s n D p ≠ 0 ∧ Flt M1 (owPerF s n D p))) ∧ KT uX WX M1)) := by
  show cP k_P xs Ln (d + 4) 125 0 [(0, rf 3), (1, rf t)] [] (T, M) _
  have hFm : Fr gS_125_m M M := Fr.refl
  have ⟨hs, h51, h0, hpn, h53, h55, h5f, h5g, h5v⟩ := hL
  have h51r := rg_5_1 hI
  have hw := hW.1
  have hw2 := hW.2.1
  have hw3 := hW.2.2.1
  have hw4 := hW.2.2.2.1
  have ht0 : M t 0 = D 0 0 := owD_at (k := 0) hD (by decide)
  have ht1 : M t 1 = D 0 1 := owD_at (k := 0) hD (by decide)
  have hvn := @owV_name s n p hpn
  refine s_aload_n kx_125_0 rfl ?_
  refine r_getI (k := t) (f := 1) kx_125_1 kp_125_129 (tkt_0 hT ht) kf_9_1 (fun _ => rfl) (rgt_0_1 hI ht) (fun v1 v1e v1a v1b => ?_)
  have v1d : D 0 1 = v1 := (owD_at (k := 0) hD (by decide)).symm.trans v1e
  refine s_bipush (v := 8) kx_125_4 (by decide) ?_
  refine s_icmp_lt (t := 26) kx_125_6 (by decide) (fun hc2 => ?_) (fun hc2 => ?_)
  · refine s_aload_n kx_125_26 rfl ?_
    refine r_getR (k := 3) (f := 1) (k2 := 5) kx_125_27 kp_125_22 (tk_3 hT) kf_10_1 (by decide) (rq_3_1 hI) ?_
    refine s_callV2 (k := 5) (s1 := 1) (s2 := 0) (as := []) (rest := []) kx_125_30 kp_125_49 (Or.inl rfl) rfl (tk_5 hT) ki_26 kcl_26 rfl rfl (by decide) (f_26 (d := d + 1) hT hI h50 (LxA.nx hL (by omega) (by omega))) (kV (fun M4 hI4 fr4 v3p => ?_))
    have hFm4 := hFm.call fr4 rfl
    have tr5 := (fr4 3 2 rfl)
    have la6 := v3p.1
    have ⟨la6a, la6b, la6c, la6d, la6e, la6f, la6g, la6h, la6i⟩ := la6
    refine s_aload_n kx_125_33 rfl ?_
    refine s_aload_n kx_125_34 rfl ?_
    refine s_callV2 (k := 3) (s1 := 2) (s2 := 0) (as := [rf t]) (rest := []) kx_125_35 kp_125_108 (Or.inl rfl) rfl (tk_3 hT) ki_132 kcl_132 rfl rfl (by decide) (f_132 (d := d + 1) hT hI4 ht v3p.1 (owD_fr hD ht fr4 rfl) hW) (kW (fun v7 M8 hI8 fr8 v7p => ?_))
    have hFm8 := hFm4.call fr8 rfl
    have tr9 := (fr8 3 2 rfl)
    refine s_istore_n kx_125_38 km_125_2 rfl ?_
    refine s_iload_n kx_125_39 rfl ?_
    refine s_iconst (v := (-1)) kx_125_40 (by decide) ?_
    refine s_icmp_ne (t := 46) kx_125_41 (by decide) (fun hc10 => ?_) (fun hc10 => ?_)
    · replace v7p := v7p.resolve_right (by omega)
      refine s_aload_n kx_125_46 rfl ?_
      refine r_getR (k := 3) (f := 1) (k2 := 5) kx_125_47 kp_125_22 (tk_3 hT) kf_10_1 (by decide) (rq_3_1 hI8) ?_
      refine s_callV2 (k := 5) (s1 := 1) (s2 := 0) (as := []) (rest := []) kx_125_50 kp_125_49 (Or.inl rfl) rfl (tk_5 hT) ki_26 kcl_26 rfl rfl (by decide) (f_26 (d := d + 1) hT hI8 ((fr8 5 0 rfl).trans ((fr4 5 0 rfl).trans h50)) (LxA.nx v7p.2.2.2.2 (by omega) (by omega))) (kV (fun M12 hI12 fr12 v11p => ?_))
      have hFm12 := hFm8.call fr12 rfl
      have tr13 := (fr12 3 2 rfl)
      have la14 := v11p.1
      have ⟨la14a, la14b, la14c, la14d, la14e, la14f, la14g, la14h, la14i⟩ := la14
      refine s_aload_n kx_125_53 rfl ?_
      refine s_ldc kx_125_54 kp_125_132 ?_
      refine s_iconst (v := 1) kx_125_56 (by decide) ?_
      refine s_bipush (v := 99) kx_125_57 (by decide) ?_
      refine s_callV2 (k := 3) (s1 := 4) (s2 := 0) (as := [(0, 99), (0, 1), (0, 659111367)]) (rest := []) kx_125_59 kp_125_113 (Or.inl rfl) rfl (tk_3 hT) ki_131 kcl_131 rfl rfl (by decide) (f_131 (d := d) (word := 659111367) (least := 1) (most := 99) hT hI12 ((fr12 5 0 rfl).trans ((fr8 5 0 rfl).trans ((fr4 5 0 rfl).trans h50))) v11p.1) (kW (fun v15 M16 hI16 fr16 v15p => ?_))
      have hFm16 := hFm12.call fr16 rfl
      refine s_if_ne (t := 67) kx_125_62 (by decide) (fun hc17 => ?_) (fun hc17 => ?_)
      · replace v15p := v15p.resolve_right (by omega)
        refine s_aload_n kx_125_67 rfl ?_
        refine r_getU (k := 3) (f := 2) kx_125_68 kp_125_23 (tk_3 hT) kf_10_2 (fun _ => rfl) (fun v18 v18e => ?_)
        refine s_istore_n kx_125_71 km_125_3 rfl ?_
        refine s_aload_n kx_125_72 rfl ?_
        refine s_ldc kx_125_73 kp_125_133 ?_
        refine s_iconst (v := 1) kx_125_75 (by decide) ?_
        refine s_bipush (v := 99) kx_125_76 (by decide) ?_
        refine s_callV2 (k := 3) (s1 := 4) (s2 := 0) (as := [(0, 99), (0, 1), (0, 109094464)]) (rest := []) kx_125_78 kp_125_113 (Or.inl rfl) rfl (tk_3 hT) ki_131 kcl_131 rfl rfl (by decide) (f_131 (d := d) (word := 109094464) (least := 1) (most := 99) hT hI16 ((fr16 5 0 rfl).trans ((fr12 5 0 rfl).trans ((fr8 5 0 rfl).trans ((fr4 5 0 rfl).trans h50)))) v15p.2.2.2) (kW (fun v19 M20 hI20 fr20 v19p => ?_))
        have hFm20 := hFm16.call fr20 rfl
        refine s_if_ne (t := 86) kx_125_81 (by decide) (fun hc21 => ?_) (fun hc21 => ?_)
        · replace v19p := v19p.resolve_right (by omega)
          refine s_aload_n kx_125_86 rfl ?_
          refine r_getU (k := 3) (f := 2) kx_125_87 kp_125_23 (tk_3 hT) kf_10_2 (fun _ => rfl) (fun v22 v22e => ?_)
          refine s_istore kx_125_90 km_125_4 rfl ?_
          refine s_aload_n kx_125_92 rfl ?_
          refine s_ldc kx_125_93 kp_125_134 ?_
          refine s_iconst (v := 1) kx_125_95 (by decide) ?_
          refine s_bipush (v := 9) kx_125_96 (by decide) ?_
          refine s_callV2 (k := 3) (s1 := 4) (s2 := 0) (as := [(0, 9), (0, 1), (0, 781325312)]) (rest := []) kx_125_98 kp_125_113 (Or.inl rfl) rfl (tk_3 hT) ki_131 kcl_131 rfl rfl (by decide) (f_131 (d := d) (word := 781325312) (least := 1) (most := 9) hT hI20 ((fr20 5 0 rfl).trans ((fr16 5 0 rfl).trans ((fr12 5 0 rfl).trans ((fr8 5 0 rfl).trans ((fr4 5 0 rfl).trans h50))))) v19p.2.2.2) (kW (fun v23 M24 hI24 fr24 v23p => ?_))
          have hFm24 := hFm20.call fr24 rfl
          refine s_if_ne (t := 106) kx_125_101 (by decide) (fun hc25 => ?_) (fun hc25 => ?_)
          · replace v23p := v23p.resolve_right (by omega)
            refine s_aload_n kx_125_106 rfl ?_
            refine r_getU (k := 3) (f := 2) kx_125_107 kp_125_23 (tk_3 hT) kf_10_2 (fun _ => rfl) (fun v26 v26e => ?_)
            refine s_istore kx_125_110 km_125_5 rfl ?_
            refine s_aload_n kx_125_112 rfl ?_
            refine s_aload_n kx_125_113 rfl ?_
            refine s_iload kx_125_114 rfl ?_
            refine s_callV2 (k := 3) (s1 := 3) (s2 := 0) (as := [(0, v26), rf t]) (rest := []) kx_125_116 kp_125_135 (Or.inl rfl) rfl (tk_3 hT) ki_126 kcl_126 rfl rfl (by decide) (f_126 (d := d) (w := v26) hT hI24 ht ((fr24 5 0 rfl).trans ((fr20 5 0 rfl).trans ((fr16 5 0 rfl).trans ((fr12 5 0 rfl).trans ((fr8 5 0 rfl).trans ((fr4 5 0 rfl).trans h50)))))) v23p.2.2.2 (owD_fr (owD_fr (owD_fr (owD_fr (owD_fr (owD_fr hD ht fr4 rfl) ht fr8 rfl) ht fr12 rfl) ht fr16 rfl) ht fr20 rfl) ht fr24 rfl) hW (by omega)) (kW (fun v27 M28 hI28 fr28 v27p => ?_))
            have hFm28 := hFm24.call fr28 rfl
            have tr29 := (fr28 3 2 rfl)
            rw [show v26 = owV s n (owE s n (owE s n (owE s n (owE s n (owE s n (owE s n (owE s n p))))))) by omega] at v27p
            refine s_istore kx_125_119 km_125_6 rfl ?_
            refine s_iload kx_125_121 rfl ?_
            refine s_iconst (v := (-1)) kx_125_123 (by decide) ?_
            refine s_icmp_ne (t := 129) kx_125_124 (by decide) (fun hc30 => ?_) (fun hc30 => ?_)
            · replace v27p := v27p.resolve_right (by omega)
              refine s_aload_n kx_125_129 rfl ?_
              refine s_iload_n kx_125_130 rfl ?_
              refine s_iload_n kx_125_131 rfl ?_
              refine s_iload kx_125_132 rfl ?_
              refine s_iload kx_125_134 rfl ?_
              refine s_iload kx_125_136 rfl ?_
              refine s_callV2 (k := t) (s1 := 6) (s2 := 0) (as := [(0, v27), (0, v26), (0, v22), (0, v18), (0, v7)]) (rest := []) kx_125_138 kp_125_139 (Or.inl rfl) rfl (tkt_0 hT ht) ki_113 kcl_113 rfl rfl (by decide) (f_113 (d := d + 3) (name := v7) (strong := v18) (weight := v22) (width := v26) (home := v27) hT hI28 ht (owD_fr (owD_fr (owD_fr (owD_fr (owD_fr (owD_fr (owD_fr hD ht fr4 rfl) ht fr8 rfl) ht fr12 rfl) ht fr16 rfl) ht fr20 rfl) ht fr24 rfl) ht fr28 rfl) hW hux (KT.fr (KT.fr (KT.fr (KT.fr (KT.fr (KT.fr (KT.fr hKX fr4 ht hux rfl) fr8 ht hux rfl) fr12 ht hux rfl) fr16 ht hux rfl) fr20 ht hux rfl) fr24 ht hux rfl) fr28 ht hux rfl) (by omega) (by omega)) (kV (fun M32 hI32 fr32 v31p => ?_))
              have hFm32 := hFm28.call fr32 rfl
              have tr33 := (fr32 3 2 rfl)
              have v31pk := v31p.2
              (replace v31p := v31p.1)
              refine s_iconst (v := 1) kx_125_141 (by decide) ?_
              exact s_iret kx_125_142 (Or.inr ⟨kq_125, by omega⟩) ⟨_, _, rfl, rfl, hI32, hFm32, ⟨(Or.inl ⟨rfl, (by unfold owPerF; (repeat' split) <;> omega), (LxA.fr v27p.2.2.2.2 fr32 rfl), (by show owD M32 t = _; rw [v31p]; unfold owPerD; congr 1 <;> omega)⟩), v31pk⟩⟩
            · replace v27p := v27p.resolve_left (by omega)
              refine s_iconst (v := 0) kx_125_127 (by decide) ?_
              exact s_iret kx_125_128 (Or.inr ⟨kq_125, by omega⟩) ⟨_, _, rfl, rfl, hI28, hFm28, ⟨(Or.inr ⟨by omega, (owFl v27p.2 (by unfold owPerF; (repeat' split) <;> omega))⟩), (KT.fr (KT.fr (KT.fr (KT.fr (KT.fr (KT.fr (KT.fr hKX fr4 ht hux rfl) fr8 ht hux rfl) fr12 ht hux rfl) fr16 ht hux rfl) fr20 ht hux rfl) fr24 ht hux rfl) fr28 ht hux rfl)⟩⟩
          · replace v23p := v23p.resolve_left (by omega)
            refine s_iconst (v := 0) kx_125_104 (by decide) ?_
            exact s_iret kx_125_105 (Or.inr ⟨kq_125, by omega⟩) ⟨_, _, rfl, rfl, hI24, hFm24, ⟨(Or.inr ⟨by omega, (owFl v23p.2 (by unfold owPerF; (repeat' split) <;> omega))⟩), (KT.fr (KT.fr (KT.fr (KT.fr (KT.fr (KT.fr hKX fr4 ht hux rfl) fr8 ht hux rfl) fr12 ht hux rfl) fr16 ht hux rfl) fr20 ht hux rfl) fr24 ht hux rfl)⟩⟩
        · replace v19p := v19p.resolve_left (by omega)
          refine s_iconst (v := 0) kx_125_84 (by decide) ?_
          exact s_iret kx_125_85 (Or.inr ⟨kq_125, by omega⟩) ⟨_, _, rfl, rfl, hI20, hFm20, ⟨(Or.inr ⟨by omega, (owFl v19p.2 (by unfold owPerF; (repeat' split) <;> omega))⟩), (KT.fr (KT.fr (KT.fr (KT.fr (KT.fr hKX fr4 ht hux rfl) fr8 ht hux rfl) fr12 ht hux rfl) fr16 ht hux rfl) fr20 ht hux rfl)⟩⟩
      · replace v15p := v15p.resolve_left (by omega)
        refine s_iconst (v := 0) kx_125_65 (by decide) ?_
        exact s_iret kx_125_66 (Or.inr ⟨kq_125, by omega⟩) ⟨_, _, rfl, rfl, hI16, hFm16, ⟨(Or.inr ⟨by omega, (owFl v15p.2 (by unfold owPerF; (repeat' split) <;> omega))⟩), (KT.fr (KT.fr (KT.fr (KT.fr hKX fr4 ht hux rfl) fr8 ht hux rfl) fr12 ht hux rfl) fr16 ht hux rfl)⟩⟩
    · replace v7p := v7p.resolve_left (by omega)
      refine s_iconst (v := 0) kx_125_44 (by decide) ?_
      exact s_iret kx_125_45 (Or.inr ⟨kq_125, by omega⟩) ⟨_, _, rfl, rfl, hI8, hFm8, ⟨(Or.inr ⟨by omega, (owFl v7p.2 (by unfold owPerF; (repeat' split) <;> omega))⟩), (KT.fr (KT.fr hKX fr4 ht hux rfl) fr8 ht hux rfl)⟩⟩
  · refine s_aload_n kx_125_9 rfl ?_
    refine r_getR (k := 3) (f := 1) (k2 := 5) kx_125_10 kp_125_22 (tk_3 hT) kf_10_1 (by decide) (rq_3_1 hI) ?_
    refine s_bipush (v := 6) kx_125_13 (by decide) ?_
    refine s_aload_n kx_125_15 rfl ?_
    refine r_getR (k := 3) (f := 1) (k2 := 5) kx_125_16 kp_125_22 (tk_3 hT) kf_10_1 (by decide) (rq_3_1 hI) ?_
    refine r_getI (k := 5) (f := 5) kx_125_19 kp_125_105 (tk_5 hT) kf_3_5 (fun _ => rfl) (rg_5_5 hI) (fun v34 v34e v34a v34b => ?_)
    have hk35 : M 5 5 = v34 := v34e
    refine s_callV2 (k := 5) (s1 := 3) (s2 := 0) (as := [(0, v34), (0, 6)]) (rest := []) kx_125_22 kp_125_45 (Or.inl rfl) rfl (tk_5 hT) ki_20 kcl_20 rfl rfl (by decide) (f_20 (d := d + 3) (kind := 6) (place := v34) hT hI) (kW (fun v36 M37 hI37 fr37 v36p => ?_))
    have hFm37 := hFm.call fr37 rfl
    have tr38 := (fr37 3 2 rfl)
    exact s_iret kx_125_25 (Or.inr ⟨kq_125, by omega⟩) ⟨_, _, rfl, rfl, hI37, hFm37, ⟨(Or.inr ⟨by omega, (owFl (LxA.fl hL (by omega) (by omega) (by omega) v36p.2.2 (by decide) rfl) (by unfold owPerF; (repeat' split) <;> omega))⟩), (KT.fr hKX fr37 ht hux rfl)⟩⟩
def gS_127_m : List (Nat × Nat) := [(17, 99999), (34, 99999), (5, 2), (5, 3), (5, 4), (5, 5), (5, 6), (5, 7)]
theorem f_127 {xs : Nat → Int} {Ln d : Nat} {T : List cK} {M : cM} (hT : TT T) (hI : Rng M) {t : Nat} (ht : t = 8 ∨ t = 25) (h50 : M 5 0 = ((2 : Nat) : Int)) {s : Nat → Int} {n p : Int} {D : cM} (hL : LxA M s n p) (hD : owD M t = D) (hW : DW D) {uX : Nat} {WX : cM} (hux : uX = 8 ∧ t = 25 ∨ uX = 25 ∧ t = 8) (hKX : KT uX WX M) (p0 : 1 ≤ owK s n p ∧ owK s n p ≤ 4) : cC k_P xs Ln (d + 3) 127 [rf 3, rf t] (T, M) (qW T M gS_127_m 0 (fun v M1 => ((v = 1 ∧ owJoF s n D p = 0 ∧ LxA M1 s n (owJoP s n p) ∧ owD M1 t = owJoD s n D p) ∨ (v = 0 ∧ owJoF s n D p ≠ 0 ∧ Flt M1 (owJoF s n D p))) ∧ KT uX WX M1)) := by
  show cP k_P xs Ln (d + 3) 127 0 [(0, rf 3), (1, rf t)] [] (T, M) _
  have hFm : Fr gS_127_m M M := Fr.refl
  have ⟨hs, h51, h0, hpn, h53, h55, h5f, h5g, h5v⟩ := hL
  have h51r := rg_5_1 hI
  have hw := hW.1
  have hw2 := hW.2.1
  have hw3 := hW.2.2.1
  have hw4 := hW.2.2.2.1
  have ht0 : M t 0 = D 0 0 := owD_at (k := 0) hD (by decide)
  have ht1 : M t 1 = D 0 1 := owD_at (k := 0) hD (by decide)
  have hvn := @owV_name s n p hpn
  refine s_aload_n kx_127_0 rfl ?_
  refine r_getR (k := 3) (f := 1) (k2 := 5) kx_127_1 kp_127_22 (tk_3 hT) kf_10_1 (by decide) (rq_3_1 hI) ?_
  refine s_callV2 (k := 5) (s1 := 1) (s2 := 0) (as := []) (rest := []) kx_127_4 kp_127_49 (Or.inl rfl) rfl (tk_5 hT) ki_26 kcl_26 rfl rfl (by decide) (f_26 (d := d) hT hI h50 (LxA.nx hL (by omega) (by omega))) (kV (fun M2 hI2 fr2 v1p => ?_))
  have hFm2 := hFm.call fr2 rfl
  have tr3 := (fr2 3 2 rfl)
  have la4 := v1p.1
  have ⟨la4a, la4b, la4c, la4d, la4e, la4f, la4g, la4h, la4i⟩ := la4
  refine s_aload_n kx_127_7 rfl ?_
  refine s_aload_n kx_127_8 rfl ?_
  refine s_iconst (v := (-1)) kx_127_9 (by decide) ?_
  refine s_callV2 (k := 3) (s1 := 3) (s2 := 0) (as := [(0, (-1)), rf t]) (rest := []) kx_127_10 kp_127_151 (Or.inl rfl) rfl (tk_3 hT) ki_134 kcl_134 rfl rfl (by decide) (f_134 (d := d) (other := (-1)) hT hI2 ht v1p.1 (owD_fr hD ht fr2 rfl) hW) (kW (fun v5 M6 hI6 fr6 v5p => ?_))
  have hFm6 := hFm2.call fr6 rfl
  have tr7 := (fr6 3 2 rfl)
  refine s_istore_n kx_127_13 km_127_2 rfl ?_
  refine s_iload_n kx_127_14 rfl ?_
  refine s_iconst (v := (-1)) kx_127_15 (by decide) ?_
  refine s_icmp_ne (t := 21) kx_127_16 (by decide) (fun hc8 => ?_) (fun hc8 => ?_)
  · replace v5p := v5p.resolve_right (by omega)
    refine s_aload_n kx_127_21 rfl ?_
    refine r_getR (k := 3) (f := 1) (k2 := 5) kx_127_22 kp_127_22 (tk_3 hT) kf_10_1 (by decide) (rq_3_1 hI6) ?_
    refine s_callV2 (k := 5) (s1 := 1) (s2 := 0) (as := []) (rest := []) kx_127_25 kp_127_49 (Or.inl rfl) rfl (tk_5 hT) ki_26 kcl_26 rfl rfl (by decide) (f_26 (d := d) hT hI6 ((fr6 5 0 rfl).trans ((fr2 5 0 rfl).trans h50)) (LxA.nx v5p.2.2.2.2.2 (by omega) (by omega))) (kV (fun M10 hI10 fr10 v9p => ?_))
    have hFm10 := hFm6.call fr10 rfl
    have tr11 := (fr10 3 2 rfl)
    have la12 := v9p.1
    have ⟨la12a, la12b, la12c, la12d, la12e, la12f, la12g, la12h, la12i⟩ := la12
    refine s_aload_n kx_127_28 rfl ?_
    refine s_aload_n kx_127_29 rfl ?_
    refine s_iload_n kx_127_30 rfl ?_
    refine s_callV2 (k := 3) (s1 := 3) (s2 := 0) (as := [(0, v5), rf t]) (rest := []) kx_127_31 kp_127_151 (Or.inl rfl) rfl (tk_3 hT) ki_134 kcl_134 rfl rfl (by decide) (f_134 (d := d) (other := v5) hT hI10 ht v9p.1 (owD_fr (owD_fr (owD_fr hD ht fr2 rfl) ht fr6 rfl) ht fr10 rfl) hW) (kW (fun v13 M14 hI14 fr14 v13p => ?_))
    have hFm14 := hFm10.call fr14 rfl
    have tr15 := (fr14 3 2 rfl)
    rw [show v5 = owPi s n D (owE s n p) by omega] at v13p
    refine s_istore_n kx_127_34 km_127_3 rfl ?_
    refine s_iload_n kx_127_35 rfl ?_
    refine s_iconst (v := (-1)) kx_127_36 (by decide) ?_
    refine s_icmp_ne (t := 42) kx_127_37 (by decide) (fun hc16 => ?_) (fun hc16 => ?_)
    · replace v13p := v13p.resolve_right (by omega)
      refine s_aload_n kx_127_42 rfl ?_
      refine r_getR (k := 3) (f := 1) (k2 := 5) kx_127_43 kp_127_22 (tk_3 hT) kf_10_1 (by decide) (rq_3_1 hI14) ?_
      refine s_callV2 (k := 5) (s1 := 1) (s2 := 0) (as := []) (rest := []) kx_127_46 kp_127_49 (Or.inl rfl) rfl (tk_5 hT) ki_26 kcl_26 rfl rfl (by decide) (f_26 (d := d) hT hI14 ((fr14 5 0 rfl).trans ((fr10 5 0 rfl).trans ((fr6 5 0 rfl).trans ((fr2 5 0 rfl).trans h50)))) (LxA.nx v13p.2.2.2.2.2 (by omega) (by omega))) (kV (fun M18 hI18 fr18 v17p => ?_))
      have hFm18 := hFm14.call fr18 rfl
      have tr19 := (fr18 3 2 rfl)
      have la20 := v17p.1
      have ⟨la20a, la20b, la20c, la20d, la20e, la20f, la20g, la20h, la20i⟩ := la20
      refine s_aload_n kx_127_49 rfl ?_
      refine s_iload_n kx_127_50 rfl ?_
      refine s_iload_n kx_127_51 rfl ?_
      refine s_callV2 (k := t) (s1 := 3) (s2 := 0) (as := [(0, v13), (0, v5)]) (rest := []) kx_127_52 kp_127_154 (Or.inl rfl) rfl (tkt_0 hT ht) ki_114 kcl_114 rfl rfl (by decide) (f_114 (d := d + 1) (one := v5) (other := v13) hT hI18 ht (owD_fr (owD_fr (owD_fr (owD_fr (owD_fr hD ht fr2 rfl) ht fr6 rfl) ht fr10 rfl) ht fr14 rfl) ht fr18 rfl) hW hux (KT.fr (KT.fr (KT.fr (KT.fr (KT.fr hKX fr2 ht hux rfl) fr6 ht hux rfl) fr10 ht hux rfl) fr14 ht hux rfl) fr18 ht hux rfl) (by omega) (by omega)) (kV (fun M22 hI22 fr22 v21p => ?_))
      have hFm22 := hFm18.call fr22 rfl
      have tr23 := (fr22 3 2 rfl)
      have v21pk := v21p.2
      (replace v21p := v21p.1)
      refine s_iconst (v := 1) kx_127_55 (by decide) ?_
      exact s_iret kx_127_56 (Or.inr ⟨kq_127, by omega⟩) ⟨_, _, rfl, rfl, hI22, hFm22, ⟨(Or.inl ⟨rfl, (by unfold owJoF; (repeat' split) <;> omega), (LxA.fr v17p.1 fr22 rfl), (by show owD M22 t = _; rw [v21p]; unfold owJoD; congr 1 <;> omega)⟩), v21pk⟩⟩
    · replace v13p := v13p.resolve_left (by omega)
      refine s_iconst (v := 0) kx_127_40 (by decide) ?_
      exact s_iret kx_127_41 (Or.inr ⟨kq_127, by omega⟩) ⟨_, _, rfl, rfl, hI14, hFm14, ⟨(Or.inr ⟨by omega, (owFl v13p.2 (by unfold owJoF; (repeat' split) <;> omega))⟩), (KT.fr (KT.fr (KT.fr (KT.fr hKX fr2 ht hux rfl) fr6 ht hux rfl) fr10 ht hux rfl) fr14 ht hux rfl)⟩⟩
  · replace v5p := v5p.resolve_left (by omega)
    refine s_iconst (v := 0) kx_127_19 (by decide) ?_
    exact s_iret kx_127_20 (Or.inr ⟨kq_127, by omega⟩) ⟨_, _, rfl, rfl, hI6, hFm6, ⟨(Or.inr ⟨by omega, (owFl v5p.2 (by unfold owJoF; (repeat' split) <;> omega))⟩), (KT.fr (KT.fr hKX fr2 ht hux rfl) fr6 ht hux rfl)⟩⟩
def gS_129_m : List (Nat × Nat) := [(25, 2), (3, 2), (5, 2), (5, 3), (5, 4), (5, 5), (5, 6), (5, 7), (8, 2)]
theorem f_129 {xs : Nat → Int} {Ln d : Nat} {T : List cK} {M : cM} (hT : TT T) (hI : Rng M) {t : Nat} (ht : t = 8 ∨ t = 25) (h50 : M 5 0 = ((2 : Nat) : Int)) {s : Nat → Int} {n p : Int} {D : cM} (hL : LxA M s n p) (hD : owD M t = D) (hW : DW D) {uX : Nat} {WX : cM} (hux : uX = 8 ∧ t = 25 ∨ uX = 25 ∧ t = 8) (hKX : KT uX WX M) (p0 : 1 ≤ owK s n p ∧ owK s n p ≤ 4) : cC k_P xs Ln (d + 4) 129 [rf 3, rf t] (T, M) (qW T M gS_129_m 0 (fun v M1 => ((v = 1 ∧ owBrF s n D p = 0 ∧ LxA M1 s n (owBrP s n p) ∧ owD M1 t = owBrD s n D p) ∨ (v = 0 ∧ owBrF s n D p ≠ 0 ∧ Flt M1 (owBrF s n D p))) ∧ KT uX WX M1)) := by
  show cP k_P xs Ln (d + 4) 129 0 [(0, rf 3), (1, rf t)] [] (T, M) _
  have hFm : Fr gS_129_m M M := Fr.refl
  have ⟨hs, h51, h0, hpn, h53, h55, h5f, h5g, h5v⟩ := hL
  have h51r := rg_5_1 hI
  have hw := hW.1
  have hw2 := hW.2.1
  have hw3 := hW.2.2.1
  have hw4 := hW.2.2.2.1
  have ht0 : M t 0 = D 0 0 := owD_at (k := 0) hD (by decide)
  have ht1 : M t 1 = D 0 1 := owD_at (k := 0) hD (by decide)
  have hvn := @owV_name s n p hpn
  refine s_aload_n kx_129_0 rfl ?_
  refine s_ldc kx_129_1 kp_129_163 ?_
  refine s_iconst (v := 0) kx_129_3 (by decide) ?_
  refine s_bipush (v := 100) kx_129_4 (by decide) ?_
  refine s_callV2 (k := 3) (s1 := 4) (s2 := 0) (as := [(0, 100), (0, 0), (0, 86148467)]) (rest := []) kx_129_6 kp_129_113 (Or.inl rfl) rfl (tk_3 hT) ki_131 kcl_131 rfl rfl (by decide) (f_131 (d := d) (word := 86148467) (least := 0) (most := 100) hT hI h50 hL) (kW (fun v1 M2 hI2 fr2 v1p => ?_))
  have hFm2 := hFm.call fr2 rfl
  refine s_if_ne (t := 14) kx_129_9 (by decide) (fun hc3 => ?_) (fun hc3 => ?_)
  · replace v1p := v1p.resolve_right (by omega)
    refine s_aload_n kx_129_14 rfl ?_
    refine s_aload_n kx_129_15 rfl ?_
    refine r_getU (k := 3) (f := 2) kx_129_16 kp_129_23 (tk_3 hT) kf_10_2 (fun _ => rfl) (fun v4 v4e => ?_)
    refine r_put (k := t) (f := 2) kx_129_19 kp_129_164 (tkt_0 hT ht) kf_9_2 rfl (by decide) (by decide) hI2 (rut_0_2 ht) (fun M5 hI5 u5 => ?_)
    have hFm5 := hFm2.up u5 (by rcases ht with rfl | rfl <;> rfl)
    have tr6 := (u5.2 3 2 (by omega))
    have hkx7 := (KT.up (KT.fr hKX fr2 ht hux rfl) u5 (by omega))
    refine s_iconst (v := 1) kx_129_22 (by decide) ?_
    exact s_iret kx_129_23 (Or.inr ⟨kq_129, by omega⟩) ⟨_, _, rfl, rfl, hI5, hFm5, ⟨(Or.inl ⟨rfl, (by unfold owBrF; (repeat' split) <;> omega), (LxA.up v1p.2.2.2 u5 (by omega)), (by show owD M5 t = _; rw [(owD_up (k := 0) (owD_fr hD ht fr2 rfl) u5 (by decide) ht)]; unfold owBrD; congr 1 <;> omega)⟩), hkx7⟩⟩
  · replace v1p := v1p.resolve_left (by omega)
    refine s_iconst (v := 0) kx_129_12 (by decide) ?_
    exact s_iret kx_129_13 (Or.inr ⟨kq_129, by omega⟩) ⟨_, _, rfl, rfl, hI2, hFm2, ⟨(Or.inr ⟨by omega, (owFl v1p.2 (by unfold owBrF; (repeat' split) <;> omega))⟩), (KT.fr hKX fr2 ht hux rfl)⟩⟩
def gS_130_m : List (Nat × Nat) := [(25, 3), (5, 2), (5, 3), (5, 4), (5, 5), (5, 6), (5, 7), (8, 3)]
theorem f_130 {xs : Nat → Int} {Ln d : Nat} {T : List cK} {M : cM} (hT : TT T) (hI : Rng M) {t : Nat} (ht : t = 8 ∨ t = 25) (h50 : M 5 0 = ((2 : Nat) : Int)) {s : Nat → Int} {n p : Int} {D : cM} (hL : LxA M s n p) (hD : owD M t = D) (hW : DW D) {uX : Nat} {WX : cM} (hux : uX = 8 ∧ t = 25 ∨ uX = 25 ∧ t = 8) (hKX : KT uX WX M) (p0 : 1 ≤ owK s n p ∧ owK s n p ≤ 4) : cC k_P xs Ln (d + 3) 130 [rf 3, rf t] (T, M) (qW T M gS_130_m 0 (fun v M1 => ((v = 1 ∧ owCaF s n D p = 0 ∧ LxA M1 s n (owCaP s n p) ∧ owD M1 t = owCaD s n D p) ∨ (v = 0 ∧ owCaF s n D p ≠ 0 ∧ Flt M1 (owCaF s n D p))) ∧ KT uX WX M1)) := by
  show cP k_P xs Ln (d + 3) 130 0 [(0, rf 3), (1, rf t)] [] (T, M) _
  have hFm : Fr gS_130_m M M := Fr.refl
  have ⟨hs, h51, h0, hpn, h53, h55, h5f, h5g, h5v⟩ := hL
  have h51r := rg_5_1 hI
  have hw := hW.1
  have hw2 := hW.2.1
  have hw3 := hW.2.2.1
  have hw4 := hW.2.2.2.1
  have ht0 : M t 0 = D 0 0 := owD_at (k := 0) hD (by decide)
  have ht1 : M t 1 = D 0 1 := owD_at (k := 0) hD (by decide)
  have hvn := @owV_name s n p hpn
  refine s_aload_n kx_130_0 rfl ?_
  refine r_getR (k := 3) (f := 1) (k2 := 5) kx_130_1 kp_130_22 (tk_3 hT) kf_10_1 (by decide) (rq_3_1 hI) ?_
  refine s_callV2 (k := 5) (s1 := 1) (s2 := 0) (as := []) (rest := []) kx_130_4 kp_130_49 (Or.inl rfl) rfl (tk_5 hT) ki_26 kcl_26 rfl rfl (by decide) (f_26 (d := d) hT hI h50 (LxA.nx hL (by omega) (by omega))) (kV (fun M2 hI2 fr2 v1p => ?_))
  have hFm2 := hFm.call fr2 rfl
  have tr3 := (fr2 3 2 rfl)
  have la4 := v1p.1
  have ⟨la4a, la4b, la4c, la4d, la4e, la4f, la4g, la4h, la4i⟩ := la4
  refine s_aload_n kx_130_7 rfl ?_
  refine s_aload_n kx_130_8 rfl ?_
  refine s_callV2 (k := 3) (s1 := 2) (s2 := 0) (as := [rf t]) (rest := []) kx_130_9 kp_130_122 (Or.inl rfl) rfl (tk_3 hT) ki_133 kcl_133 rfl rfl (by decide) (f_133 (d := d) hT hI2 ht v1p.1 (owD_fr hD ht fr2 rfl) hW) (kW (fun v5 M6 hI6 fr6 v5p => ?_))
  have hFm6 := hFm2.call fr6 rfl
  have tr7 := (fr6 3 2 rfl)
  refine s_istore_n kx_130_12 km_130_2 rfl ?_
  refine s_iload_n kx_130_13 rfl ?_
  refine s_iconst (v := (-1)) kx_130_14 (by decide) ?_
  refine s_icmp_ne (t := 20) kx_130_15 (by decide) (fun hc8 => ?_) (fun hc8 => ?_)
  · replace v5p := v5p.resolve_right (by omega)
    refine s_aload_n kx_130_20 rfl ?_
    refine r_getR (k := 3) (f := 1) (k2 := 5) kx_130_21 kp_130_22 (tk_3 hT) kf_10_1 (by decide) (rq_3_1 hI6) ?_
    refine s_callV2 (k := 5) (s1 := 1) (s2 := 0) (as := []) (rest := []) kx_130_24 kp_130_49 (Or.inl rfl) rfl (tk_5 hT) ki_26 kcl_26 rfl rfl (by decide) (f_26 (d := d) hT hI6 ((fr6 5 0 rfl).trans ((fr2 5 0 rfl).trans h50)) (LxA.nx v5p.2.2.2.2.2 (by omega) (by omega))) (kV (fun M10 hI10 fr10 v9p => ?_))
    have hFm10 := hFm6.call fr10 rfl
    have tr11 := (fr10 3 2 rfl)
    have la12 := v9p.1
    have ⟨la12a, la12b, la12c, la12d, la12e, la12f, la12g, la12h, la12i⟩ := la12
    refine s_aload_n kx_130_27 rfl ?_
    refine s_iload_n kx_130_28 rfl ?_
    refine r_put (k := t) (f := 3) kx_130_29 kp_130_167 (tkt_0 hT ht) kf_9_3 rfl (by decide) (by decide) hI10 (rut_0_3 ht) (fun M13 hI13 u13 => ?_)
    have hFm13 := hFm10.up u13 (by rcases ht with rfl | rfl <;> rfl)
    have tr14 := (u13.2 3 2 (by omega))
    have hkx15 := (KT.up (KT.fr (KT.fr (KT.fr hKX fr2 ht hux rfl) fr6 ht hux rfl) fr10 ht hux rfl) u13 (by omega))
    refine s_iconst (v := 1) kx_130_32 (by decide) ?_
    exact s_iret kx_130_33 (Or.inr ⟨kq_130, by omega⟩) ⟨_, _, rfl, rfl, hI13, hFm13, ⟨(Or.inl ⟨rfl, (by unfold owCaF; (repeat' split) <;> omega), (LxA.up v9p.1 u13 (by omega)), (by show owD M13 t = _; rw [(owD_up (k := 0) (owD_fr (owD_fr (owD_fr hD ht fr2 rfl) ht fr6 rfl) ht fr10 rfl) u13 (by decide) ht)]; unfold owCaD; congr 1 <;> omega)⟩), hkx15⟩⟩
  · replace v5p := v5p.resolve_left (by omega)
    refine s_iconst (v := 0) kx_130_18 (by decide) ?_
    exact s_iret kx_130_19 (Or.inr ⟨kq_130, by omega⟩) ⟨_, _, rfl, rfl, hI6, hFm6, ⟨(Or.inr ⟨by omega, (owFl v5p.2 (by unfold owCaF; (repeat' split) <;> omega))⟩), (KT.fr (KT.fr hKX fr2 ht hux rfl) fr6 ht hux rfl)⟩⟩
