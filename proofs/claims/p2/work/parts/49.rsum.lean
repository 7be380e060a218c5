def B0 (M : cM) : Prop := M 87 (M 63 42 - 1).toNat = 0
theorem B0.up {M M1 : cM} {k f : Nat} {v : Int} (h : B0 M) (u : Up M k f v M1) (hk : k ≠ 87 ∧ (k ≠ 63 ∨ f ≠ 42)) : B0 M1 := by
  unfold B0
  rw [u.2 63 42 (by omega), u.2 87 _ (by omega)]
  exact h
theorem B0.fr {S : List (Nat × Nat)} {M M1 : cM} (h : B0 M) (g : Fr S M M1) (h1 : c_in S 63 42 = false) (h2 : ∀ f, c_in S 87 f = false) : B0 M1 := by
  unfold B0
  rw [g 63 42 h1, g 87 _ (h2 _)]
  exact h
theorem B0.mk {M M1 : cM} {f : Int} (hf : f = M 63 42 - 1) (u : Up M 87 f.toNat 0 M1) : B0 M1 := by
  unfold B0
  rw [u.2 63 42 (by omega), ← hf]
  exact u.1
def OPd (M M1 : cM) (c : Nat → Int) (a v : Int) : Prop := 1 ≤ M1 63 9 ∨ (M 63 4 + 1 ≤ M1 63 4 ∧ ((v = 1 ∧ B0 M1 ∧ PI M1 c a 1 7 (M1 63 4) 0) ∨ (v = 0 ∧ PI M1 c a 0 7 (M1 63 4) 0)))
def GOd (M M1 : cM) (c : Nat → Int) (a v : Int) : Prop := 1 ≤ M1 63 9 ∨ (v = 0 ∧ PI M1 c a 1 7 (M1 63 4) 0) ∨ (v = 1 ∧ M 63 4 + 1 ≤ M1 63 4 ∧ ((M1 63 46 = 0 ∧ PI M1 c a 0 7 (M1 63 4) 0) ∨ (M1 63 46 = M 63 46 ∧ B0 M1 ∧ PI M1 c a 1 7 (M1 63 4) 0)))
section PI2
variable {M M1 : cM} {c : Nat → Int} {a r q e : Int} {x : Nat}
theorem PI.opn {e' v : Int} (h : PI M c a x r q e) (u : Up M 63 43 v M1) (hv : e' = e + (v - M 63 43)) : PI M1 c a x r q e' := by
  have := h.opened u (show v = M 63 43 + (v - M 63 43) by omega)
  rw [← hv] at this
  exact this
theorem PI.dop (h : PI M c a x r q e) : M 63 42 - 1 + e ≤ M 63 43 := by
  obtain ⟨F, fs, hG, hC, hR, h42, h43, hr, ha, hac, hh, hq, h45, h36⟩ := h
  omega
theorem PI.to7 (h : PI M c a x r q e) {q' : Int} (hq : q ≤ q') : PI M c a x 7 q' e := (h.top7).wk (Int.le_refl _) hq
theorem PI.no4 {f : Int} (h : PI M c a x 5 q e) (hf : f = M 63 42 - 1) (hp : M 86 f.toNat = 0) : PI M c a x 4 q e := by
  obtain ⟨F, fs, hG, hC, hR, h42, h43, hr, ha, hac, hh, hq, h45, h36⟩ := h
  refine ⟨F, fs, hG, hC, hR, h42, h43, ?_, ha, hac, hh, hq, h45, h36⟩
  rw [show f.toNat = fs.length by omega, hR.2.1] at hp
  obtain ⟨r85, r86, r87, r88, b, r89, hn, hO, hok, hbot, hFs⟩ := hR
  intro o ho
  have h1 := hr o ho
  have h2 := hok.2.2.1 hp o ho
  omega
theorem PI.holdA {l o : Int} (h : PI M c a 1 l q e) (hb : B0 M) (hl : (l = 5 ∧ (o = 10 ∨ o = 11)) ∨ (l = 6 ∧ 12 ≤ o ∧ o ≤ 14)) (g : Fr [(63, 45), (90, 99999)] M M1) (h1 : M1 63 45 = M 63 45 + 1) (h2 : M1 90 (M 63 45).toNat = o) (h3 : ∀ k, k ≠ (M 63 45).toNat → M1 90 k = M 90 k) : PI M1 c a 0 7 (q + 1) e := by
  have hk : l ≤ rk o ∧ rk o ≠ 4 := by
    unfold rk
    (repeat' split) <;> omega
  have hb' : M 87 (M 63 42 - 1).toNat = 0 := hb
  refine PI.to7 (h.hold (o := o) (x' := 0) (e' := e) rfl (Or.inl hk.1) ?_ (Or.inl hk.2) (Or.inr (by omega)) (Or.inr ⟨by omega, rfl, rfl⟩) g h1 h2 h3) (Int.le_refl _)
  unfold opOk
  omega
theorem PI.holdL {l o : Int} (h : PI M c a 1 l q e) (hb : B0 M) (hl : (l = 2 ∧ o = 20) ∨ (l = 1 ∧ o = 21)) (g : Fr [(63, 45), (90, 99999)] M M1) (h1 : M1 63 45 = M 63 45 + 1) (h2 : M1 90 (M 63 45).toNat = o) (h3 : ∀ k, k ≠ (M 63 45).toNat → M1 90 k = M 90 k) : PI M1 c a 0 3 (q + 1) e := by
  have hk : l ≤ rk o ∧ rk o ≤ 2 := by
    unfold rk
    (repeat' split) <;> omega
  have hb' : M 87 (M 63 42 - 1).toNat = 0 := hb
  refine PI.wk (h.hold (o := o) (x' := 0) (e' := e) rfl (Or.inl hk.1) ?_ (Or.inl (by omega)) (Or.inl (by omega)) (Or.inr ⟨by omega, rfl, rfl⟩) g h1 h2 h3) (by omega) (Int.le_refl _)
  unfold opOk
  omega
theorem PI.holdN (h : PI M c a 0 r q 1) {f : Int} (hf : f = M 63 42 - 1) (hb : M 87 f.toNat = 1) (g : Fr [(63, 45), (90, 99999)] M M1) (h1 : M1 63 45 = M 63 45 + 1) (h2 : M1 90 (M 63 45).toNat = 22) (h3 : ∀ k, k ≠ (M 63 45).toNat → M1 90 k = M 90 k) : PI M1 c a 0 7 (q + 1) 0 := by
  refine PI.to7 (h.hold (o := 22) (x' := 0) (e' := 0) hf (Or.inr ⟨rfl, hb⟩) ?_ (Or.inl (by decide)) (Or.inl (by decide)) (Or.inl ⟨rfl, rfl, by decide⟩) g h1 h2 h3) (Int.le_refl _)
  unfold opOk
  omega
theorem PI.holdC {M2 : cM} {f o : Int} (h : PI M c a 1 5 q e) (hf : f = M 63 42 - 1) (hp : M 86 f.toNat = 0) (hb : B0 M) (ho : 17 ≤ o ∧ o ≤ 19) (g : Fr [(63, 45), (90, 99999)] M M1) (h1 : M1 63 45 = M 63 45 + 1) (h2 : M1 90 (M 63 45).toNat = o) (h3 : ∀ k, k ≠ (M 63 45).toNat → M1 90 k = M 90 k) (u : Up M1 86 f.toNat 1 M2) : PI M2 c a 0 7 (q + 1) e := by
  have h4 := h.no4 hf hp
  have hv := Up.of M 86 f.toNat 1
  have h5 := h4.phase (v := 1) (Or.inl (by decide)) hf hv
  have hk : rk o = 4 := by
    unfold rk
    (repeat' split) <;> omega
  have e63 : ∀ k, c_up M 86 f.toNat 1 63 k = M 63 k := fun k => hv.2 63 k (by omega)
  have e90 : ∀ k, c_up M 86 f.toNat 1 90 k = M 90 k := fun k => hv.2 90 k (by omega)
  refine PI.to7 (h5.hold (M1 := M2) (o := o) (x' := 0) (e' := e) (f := f) (by rw [e63]; exact hf) (Or.inl (by omega)) ?_ (Or.inr (by rw [hv.1]; decide)) (Or.inr ?_) (Or.inr ⟨by omega, rfl, rfl⟩) ?_ ?_ ?_ ?_) (Int.le_refl _)
  · unfold opOk
    omega
  · rw [hv.2 87 _ (by omega)]
    have hb' : M 87 (M 63 42 - 1).toNat = 0 := hb
    rw [hf]
    omega
  · intro x y hxy
    by_cases z : x = 86 ∧ y = f.toNat
    · rw [z.1, z.2, u.1, hv.1]
    · rw [u.2 x y z, hv.2 x y z]
      exact g x y hxy
  · rw [u.2 63 45 (by omega), e63]
    exact h1
  · rw [e63, u.2 90 _ (by omega)]
    exact h2
  · intro k hk
    rw [e63] at hk
    rw [u.2 90 k (by omega), e90]
    exact h3 k hk
theorem PI.code4 {k o : Int} (h : PI M c a (1 + comp k o) r q e) (hk : k = 4) (ho : o = 15 ∨ o = 16 ∨ o = 23) (g : Fr [(63, 35), (81, 99999), (82, 99999)] M M1) (h1 : M1 63 35 = M 63 35 + 1) (h2 : M1 81 (1600 * M 63 36 + M 63 35).toNat = o) (h3 : ∀ k, k ≠ (1600 * M 63 36 + M 63 35).toNat → M1 81 k = M 81 k) : PI M1 c a 1 r (q + 1) e := by
  subst hk
  rcases ho with rfl | rfl | rfl
  · exact PI.codeB (x := 1) h (by decide) (by decide) g h1 h2 h3
  · exact PI.codeB (x := 1) h (by decide) (by decide) g h1 h2 h3
  · exact PI.codeW (x := 1) h (by decide) g h1 h2 h3
theorem PI.comp0 {k p : Int} (h : PI M c a (1 + comp k p) r q e) (hk : k ≠ 4 ∧ k ≠ 3) : PI M c a 1 r q e := by
  unfold comp at h
  rw [if_neg hk.1, if_neg hk.2] at h
  exact h
end PI2
theorem kx_189_0 : x_code k_P 189 0 = some (.aload_n 0, 1) := by decide +kernel
theorem kx_189_1 : x_code k_P 189 1 = some (.getfield 105, 3) := by decide +kernel
theorem kp_189_105 : x_pool k_P 189 105 = (1, 12, 31) := by decide +kernel
theorem kx_189_4 : x_code k_P 189 4 = some (.sipush 1600, 3) := by decide +kernel
theorem kx_189_7 : x_code k_P 189 7 = some (.aload_n 0, 1) := by decide +kernel
theorem kx_189_8 : x_code k_P 189 8 = some (.getfield 121, 3) := by decide +kernel
theorem kp_189_121 : x_pool k_P 189 121 = (1, 12, 36) := by decide +kernel
theorem kx_189_11 : x_code k_P 189 11 = some (.imul, 1) := by decide +kernel
theorem kx_189_12 : x_code k_P 189 12 = some (.aload_n 0, 1) := by decide +kernel
theorem kx_189_13 : x_code k_P 189 13 = some (.getfield 118, 3) := by decide +kernel
theorem kp_189_118 : x_pool k_P 189 118 = (1, 12, 35) := by decide +kernel
theorem kf_12_35 : (x_cls k_P 12)[35]? = some 0 := by decide +kernel
theorem kx_189_16 : x_code k_P 189 16 = some (.iadd, 1) := by decide +kernel
theorem kx_189_17 : x_code k_P 189 17 = some (.iload_n 1, 1) := by decide +kernel
theorem kx_189_18 : x_code k_P 189 18 = some (.iastore, 1) := by decide +kernel
theorem kx_189_19 : x_code k_P 189 19 = some (.aload_n 0, 1) := by decide +kernel
theorem kx_189_20 : x_code k_P 189 20 = some (.getfield 108, 3) := by decide +kernel
theorem kp_189_108 : x_pool k_P 189 108 = (1, 12, 32) := by decide +kernel
theorem kx_189_23 : x_code k_P 189 23 = some (.sipush 1600, 3) := by decide +kernel
theorem kx_189_26 : x_code k_P 189 26 = some (.aload_n 0, 1) := by decide +kernel
theorem kx_189_27 : x_code k_P 189 27 = some (.getfield 121, 3) := by decide +kernel
theorem kx_189_30 : x_code k_P 189 30 = some (.imul, 1) := by decide +kernel
theorem kx_189_31 : x_code k_P 189 31 = some (.aload_n 0, 1) := by decide +kernel
theorem kx_189_32 : x_code k_P 189 32 = some (.getfield 118, 3) := by decide +kernel
theorem kx_189_35 : x_code k_P 189 35 = some (.iadd, 1) := by decide +kernel
theorem kx_189_36 : x_code k_P 189 36 = some (.iload_n 2, 1) := by decide +kernel
theorem kx_189_37 : x_code k_P 189 37 = some (.iastore, 1) := by decide +kernel
theorem kx_189_38 : x_code k_P 189 38 = some (.aload_n 0, 1) := by decide +kernel
theorem kx_189_39 : x_code k_P 189 39 = some (.dup, 1) := by decide +kernel
theorem kx_189_40 : x_code k_P 189 40 = some (.getfield 118, 3) := by decide +kernel
theorem kx_189_43 : x_code k_P 189 43 = some (.iconst 1, 1) := by decide +kernel
theorem kx_189_44 : x_code k_P 189 44 = some (.iadd, 1) := by decide +kernel
theorem kx_189_45 : x_code k_P 189 45 = some (.putfield 118, 3) := by decide +kernel
theorem kx_189_48 : x_code k_P 189 48 = some (.return_, 1) := by decide +kernel
theorem kq_189 : x_retk k_P 189 = 0 := by decide +kernel
def fS_189_m : List (Nat × Nat) := [(63, 35), (81, 99999), (82, 99999)]
theorem m_189 {xs : Nat → Int} {Ln d : Nat} {T : List cK} {M : cM} (hT : TT T) (hI : Rng M) {sort v_ : Int} (p0 : 0 ≤ sort ∧ sort ≤ 23) (p1 : M 63 35 ≤ 1599) : cC k_P xs Ln (d + 0) 189 [rf 63, (0, sort), (0, v_)] (T, M) (qV T M fS_189_m (fun M1 => M1 63 35 = M 63 35 + 1 ∧ M1 81 (1600 * M 63 36 + M 63 35).toNat = sort ∧ (∀ k, k ≠ (1600 * M 63 36 + M 63 35).toNat → M1 81 k = M 81 k))) := by
  show cP k_P xs Ln (d + 0) 189 0 [(0, rf 63), (1, (0, sort)), (2, (0, v_))] [] (T, M) _
  have hFm : Fr fS_189_m M M := Fr.refl
  refine s_aload_n kx_189_0 rfl ?_
  refine r_getR (k := 63) (f := 31) (k2 := 81) kx_189_1 kp_189_105 (tk_63 hT) kf_12_31 (by decide) (rq_63_31 hI) ?_
  refine s_sipush (v := 1600) kx_189_4 (by decide) ?_
  refine s_aload_n kx_189_7 rfl ?_
  refine r_getI (k := 63) (f := 36) kx_189_8 kp_189_121 (tk_63 hT) kf_12_36 (fun _ => rfl) (rg_63_36 hI) (fun v1 v1e v1a v1b => ?_)
  refine r_mul kx_189_11 ⟨by omega, by omega⟩ ?_
  refine s_aload_n kx_189_12 rfl ?_
  refine r_getI (k := 63) (f := 35) kx_189_13 kp_189_118 (tk_63 hT) kf_12_35 (fun _ => rfl) (rg_63_35 hI) (fun v2 v2e v2a v2b => ?_)
  refine r_add kx_189_16 ⟨by omega, by omega⟩ ?_
  refine s_iload_n kx_189_17 rfl ?_
  refine r_ast (k := 81) kx_189_18 (tk_81 hT) ⟨by omega, by omega⟩ hI (ru_81 (by omega) (by omega)) (fun M3 hI3 u3 => ?_)
  have hFm3 := hFm.up u3 rfl
  refine s_aload_n kx_189_19 rfl ?_
  refine r_getR (k := 63) (f := 32) (k2 := 82) kx_189_20 kp_189_108 (tk_63 hT) kf_12_32 (by decide) (rq_63_32 hI3) ?_
  refine s_sipush (v := 1600) kx_189_23 (by decide) ?_
  refine s_aload_n kx_189_26 rfl ?_
  refine r_getK (k := 63) (f := 36) kx_189_27 kp_189_121 (tk_63 hT) kf_12_36 (fun _ => rfl) ((u3.2 63 36 (by omega)).trans v1e) ?_
  refine r_mul kx_189_30 ⟨by omega, by omega⟩ ?_
  refine s_aload_n kx_189_31 rfl ?_
  refine r_getK (k := 63) (f := 35) kx_189_32 kp_189_118 (tk_63 hT) kf_12_35 (fun _ => rfl) ((u3.2 63 35 (by omega)).trans v2e) ?_
  refine r_add kx_189_35 ⟨by omega, by omega⟩ ?_
  refine s_iload_n kx_189_36 rfl ?_
  refine r_ast (k := 82) kx_189_37 (tk_82 hT) ⟨by omega, by omega⟩ hI3 ru_82 (fun M4 hI4 u4 => ?_)
  have hFm4 := hFm3.up u4 rfl
  refine s_aload_n kx_189_38 rfl ?_
  refine s_dup kx_189_39 rfl ?_
  refine r_getK (k := 63) (f := 35) kx_189_40 kp_189_118 (tk_63 hT) kf_12_35 (fun _ => rfl) ((u4.2 63 35 (by omega)).trans ((u3.2 63 35 (by omega)).trans v2e)) ?_
  refine s_iconst (v := 1) kx_189_43 (by decide) ?_
  refine r_add kx_189_44 ⟨by omega, by omega⟩ ?_
  refine r_put (k := 63) (f := 35) kx_189_45 kp_189_118 (tk_63 hT) kf_12_35 rfl (by decide) (by decide) hI4 (ru_63_35 (by omega) (by omega)) (fun M5 hI5 u5 => ?_)
  have hFm5 := hFm4.up u5 rfl
  have hk6 : M5 63 35 = (v2 + 1) := u5.1
  exact s_vret kx_189_48 kq_189 ⟨_, rfl, rfl, hI5, hFm5, ⟨by omega, by rw [(show (1600 * M 63 36 + M 63 35).toNat = ((1600 * v1) + v2).toNat by rw [v1e, v2e])]; exact ((u5.2 81 _ (by omega)).trans ((u4.2 81 _ (by omega)).trans u3.1)), fun k hk => ((u5.2 81 k (by omega)).trans ((u4.2 81 k (by omega)).trans (u3.2 81 k (by rw [(show (1600 * M 63 36 + M 63 35).toNat = ((1600 * v1) + v2).toNat by rw [v1e, v2e])] at hk; omega))))⟩⟩
theorem kx_190_0 : x_code k_P 190 0 = some (.iload_n 0, 1) := by decide +kernel
theorem kx_190_1 : x_code k_P 190 1 = some (.bipush 21, 2) := by decide +kernel
theorem kx_190_3 : x_code k_P 190 3 = some (.if_icmp .ne 7, 3) := by decide +kernel
theorem kx_190_10 : x_code k_P 190 10 = some (.iload_n 0, 1) := by decide +kernel
theorem kx_190_11 : x_code k_P 190 11 = some (.bipush 20, 2) := by decide +kernel
theorem kx_190_13 : x_code k_P 190 13 = some (.if_icmp .ne 7, 3) := by decide +kernel
theorem kx_190_20 : x_code k_P 190 20 = some (.iload_n 0, 1) := by decide +kernel
theorem kx_190_21 : x_code k_P 190 21 = some (.bipush 22, 2) := by decide +kernel
theorem kx_190_23 : x_code k_P 190 23 = some (.if_icmp .ne 7, 3) := by decide +kernel
theorem kx_190_30 : x_code k_P 190 30 = some (.iload_n 0, 1) := by decide +kernel
theorem kx_190_31 : x_code k_P 190 31 = some (.bipush 17, 2) := by decide +kernel
theorem kx_190_33 : x_code k_P 190 33 = some (.if_icmp .eq 15, 3) := by decide +kernel
theorem kx_190_48 : x_code k_P 190 48 = some (.iconst 4, 1) := by decide +kernel
theorem kx_190_49 : x_code k_P 190 49 = some (.goto 21, 3) := by decide +kernel
theorem kx_190_70 : x_code k_P 190 70 = some (.ireturn, 1) := by decide +kernel
theorem kq_190 : x_retk k_P 190 = 1 := by decide +kernel
theorem kx_190_36 : x_code k_P 190 36 = some (.iload_n 0, 1) := by decide +kernel
theorem kx_190_37 : x_code k_P 190 37 = some (.bipush 18, 2) := by decide +kernel
theorem kx_190_39 : x_code k_P 190 39 = some (.if_icmp .eq 9, 3) := by decide +kernel
theorem kx_190_42 : x_code k_P 190 42 = some (.iload_n 0, 1) := by decide +kernel
theorem kx_190_43 : x_code k_P 190 43 = some (.bipush 19, 2) := by decide +kernel
theorem kx_190_45 : x_code k_P 190 45 = some (.if_icmp .ne 7, 3) := by decide +kernel
theorem kx_190_52 : x_code k_P 190 52 = some (.iload_n 0, 1) := by decide +kernel
theorem kx_190_53 : x_code k_P 190 53 = some (.bipush 10, 2) := by decide +kernel
theorem kx_190_55 : x_code k_P 190 55 = some (.if_icmp .eq 9, 3) := by decide +kernel
theorem kx_190_64 : x_code k_P 190 64 = some (.iconst 5, 1) := by decide +kernel
theorem kx_190_65 : x_code k_P 190 65 = some (.goto 5, 3) := by decide +kernel
theorem kx_190_58 : x_code k_P 190 58 = some (.iload_n 0, 1) := by decide +kernel
theorem kx_190_59 : x_code k_P 190 59 = some (.bipush 11, 2) := by decide +kernel
theorem kx_190_61 : x_code k_P 190 61 = some (.if_icmp .ne 7, 3) := by decide +kernel
theorem kx_190_68 : x_code k_P 190 68 = some (.bipush 6, 2) := by decide +kernel
theorem kx_190_26 : x_code k_P 190 26 = some (.iconst 3, 1) := by decide +kernel
theorem kx_190_27 : x_code k_P 190 27 = some (.goto 43, 3) := by decide +kernel
theorem kx_190_16 : x_code k_P 190 16 = some (.iconst 2, 1) := by decide +kernel
theorem kx_190_17 : x_code k_P 190 17 = some (.goto 53, 3) := by decide +kernel
theorem kx_190_6 : x_code k_P 190 6 = some (.iconst 1, 1) := by decide +kernel
theorem kx_190_7 : x_code k_P 190 7 = some (.goto 63, 3) := by decide +kernel
theorem m_190 {xs : Nat → Int} {Ln d : Nat} {T : List cK} {M : cM} (hT : TT T) (hI : Rng M) {op : Int} : cC k_P xs Ln (d + 0) 190 [(0, op)] (T, M) (qF T M 0 (fun v => v = rk op)) := by
  show cP k_P xs Ln (d + 0) 190 0 [(0, (0, op))] [] (T, M) _
  refine s_iload_n kx_190_0 rfl ?_
  refine s_bipush (v := 21) kx_190_1 (by decide) ?_
  refine s_icmp_ne (t := 10) kx_190_3 (by decide) (fun hc1 => ?_) (fun hc1 => ?_)
  · refine s_iload_n kx_190_10 rfl ?_
    refine s_bipush (v := 20) kx_190_11 (by decide) ?_
    refine s_icmp_ne (t := 20) kx_190_13 (by decide) (fun hc2 => ?_) (fun hc2 => ?_)
    · refine s_iload_n kx_190_20 rfl ?_
      refine s_bipush (v := 22) kx_190_21 (by decide) ?_
      refine s_icmp_ne (t := 30) kx_190_23 (by decide) (fun hc3 => ?_) (fun hc3 => ?_)
      · refine s_iload_n kx_190_30 rfl ?_
        refine s_bipush (v := 17) kx_190_31 (by decide) ?_
        refine s_icmp_eq (t := 48) kx_190_33 (by decide) (fun hc4 => ?_) (fun hc4 => ?_)
        · refine s_iconst (v := 4) kx_190_48 (by decide) ?_
          refine s_goto (t := 70) kx_190_49 (by decide) ?_
          exact s_iret kx_190_70 (Or.inl kq_190) ⟨_, rfl, rfl, (by unfold rk; (repeat' split) <;> omega)⟩
        · refine s_iload_n kx_190_36 rfl ?_
          refine s_bipush (v := 18) kx_190_37 (by decide) ?_
          refine s_icmp_eq (t := 48) kx_190_39 (by decide) (fun hc5 => ?_) (fun hc5 => ?_)
          · refine s_iconst (v := 4) kx_190_48 (by decide) ?_
            refine s_goto (t := 70) kx_190_49 (by decide) ?_
            exact s_iret kx_190_70 (Or.inl kq_190) ⟨_, rfl, rfl, (by unfold rk; (repeat' split) <;> omega)⟩
          · refine s_iload_n kx_190_42 rfl ?_
            refine s_bipush (v := 19) kx_190_43 (by decide) ?_
            refine s_icmp_ne (t := 52) kx_190_45 (by decide) (fun hc6 => ?_) (fun hc6 => ?_)
            · refine s_iload_n kx_190_52 rfl ?_
              refine s_bipush (v := 10) kx_190_53 (by decide) ?_
              refine s_icmp_eq (t := 64) kx_190_55 (by decide) (fun hc7 => ?_) (fun hc7 => ?_)
              · refine s_iconst (v := 5) kx_190_64 (by decide) ?_
                refine s_goto (t := 70) kx_190_65 (by decide) ?_
                exact s_iret kx_190_70 (Or.inl kq_190) ⟨_, rfl, rfl, (by unfold rk; (repeat' split) <;> omega)⟩
              · refine s_iload_n kx_190_58 rfl ?_
                refine s_bipush (v := 11) kx_190_59 (by decide) ?_
                refine s_icmp_ne (t := 68) kx_190_61 (by decide) (fun hc8 => ?_) (fun hc8 => ?_)
                · refine s_bipush (v := 6) kx_190_68 (by decide) ?_
                  exact s_iret kx_190_70 (Or.inl kq_190) ⟨_, rfl, rfl, (by unfold rk; (repeat' split) <;> omega)⟩
                · refine s_iconst (v := 5) kx_190_64 (by decide) ?_
                  refine s_goto (t := 70) kx_190_65 (by decide) ?_
                  exact s_iret kx_190_70 (Or.inl kq_190) ⟨_, rfl, rfl, (by unfold rk; (repeat' split) <;> omega)⟩
            · refine s_iconst (v := 4) kx_190_48 (by decide) ?_
              refine s_goto (t := 70) kx_190_49 (by decide) ?_
              exact s_iret kx_190_70 (Or.inl kq_190) ⟨_, rfl, rfl, (by unfold rk; (repeat' split) <;> omega)⟩
      · refine s_iconst (v := 3) kx_190_26 (by decide) ?_
        refine s_goto (t := 70) kx_190_27 (by decide) ?_
        exact s_iret kx_190_70 (Or.inl kq_190) ⟨_, rfl, rfl, (by unfold rk; (repeat' split) <;> omega)⟩
    · refine s_iconst (v := 2) kx_190_16 (by decide) ?_
      refine s_goto (t := 70) kx_190_17 (by decide) ?_
      exact s_iret kx_190_70 (Or.inl kq_190) ⟨_, rfl, rfl, (by unfold rk; (repeat' split) <;> omega)⟩
  · refine s_iconst (v := 1) kx_190_6 (by decide) ?_
    refine s_goto (t := 70) kx_190_7 (by decide) ?_
    exact s_iret kx_190_70 (Or.inl kq_190) ⟨_, rfl, rfl, (by unfold rk; (repeat' split) <;> omega)⟩
theorem kx_195_0 : x_code k_P 195 0 = some (.iload_n 0, 1) := by decide +kernel
theorem kx_195_1 : x_code k_P 195 1 = some (.iconst 1, 1) := by decide +kernel
theorem kx_195_2 : x_code k_P 195 2 = some (.if_icmp .eq 14, 3) := by decide +kernel
theorem kx_195_16 : x_code k_P 195 16 = some (.iconst 1, 1) := by decide +kernel
theorem kx_195_17 : x_code k_P 195 17 = some (.goto 4, 3) := by decide +kernel
theorem kx_195_21 : x_code k_P 195 21 = some (.ireturn, 1) := by decide +kernel
theorem kq_195 : x_retk k_P 195 = 2 := by decide +kernel
theorem kx_195_5 : x_code k_P 195 5 = some (.iload_n 0, 1) := by decide +kernel
theorem kx_195_6 : x_code k_P 195 6 = some (.iconst 5, 1) := by decide +kernel
theorem kx_195_7 : x_code k_P 195 7 = some (.if_icmp .eq 9, 3) := by decide +kernel
theorem kx_195_10 : x_code k_P 195 10 = some (.iload_n 0, 1) := by decide +kernel
theorem kx_195_11 : x_code k_P 195 11 = some (.bipush 6, 2) := by decide +kernel
theorem kx_195_13 : x_code k_P 195 13 = some (.if_icmp .ne 7, 3) := by decide +kernel
theorem kx_195_20 : x_code k_P 195 20 = some (.iconst 0, 1) := by decide +kernel
theorem m_195 {xs : Nat → Int} {Ln d : Nat} {T : List cK} {M : cM} (hT : TT T) (hI : Rng M) {kind : Int} : cC k_P xs Ln (d + 0) 195 [(0, kind)] (T, M) (qF T M 0 (fun v => (v = 1 ∧ (kind = 1 ∨ kind = 5 ∨ kind = 6)) ∨ v = 0)) := by
  show cP k_P xs Ln (d + 0) 195 0 [(0, (0, kind))] [] (T, M) _
  refine s_iload_n kx_195_0 rfl ?_
  refine s_iconst (v := 1) kx_195_1 (by decide) ?_
  refine s_icmp_eq (t := 16) kx_195_2 (by decide) (fun hc1 => ?_) (fun hc1 => ?_)
  · refine s_iconst (v := 1) kx_195_16 (by decide) ?_
    refine s_goto (t := 21) kx_195_17 (by decide) ?_
    exact s_iret kx_195_21 (Or.inr ⟨kq_195, by omega⟩) ⟨_, rfl, rfl, (by omega)⟩
  · refine s_iload_n kx_195_5 rfl ?_
    refine s_iconst (v := 5) kx_195_6 (by decide) ?_
    refine s_icmp_eq (t := 16) kx_195_7 (by decide) (fun hc2 => ?_) (fun hc2 => ?_)
    · refine s_iconst (v := 1) kx_195_16 (by decide) ?_
      refine s_goto (t := 21) kx_195_17 (by decide) ?_
      exact s_iret kx_195_21 (Or.inr ⟨kq_195, by omega⟩) ⟨_, rfl, rfl, (by omega)⟩
    · refine s_iload_n kx_195_10 rfl ?_
      refine s_bipush (v := 6) kx_195_11 (by decide) ?_
      refine s_icmp_ne (t := 20) kx_195_13 (by decide) (fun hc3 => ?_) (fun hc3 => ?_)
      · refine s_iconst (v := 0) kx_195_20 (by decide) ?_
        exact s_iret kx_195_21 (Or.inr ⟨kq_195, by omega⟩) ⟨_, rfl, rfl, (by omega)⟩
      · refine s_iconst (v := 1) kx_195_16 (by decide) ?_
        refine s_goto (t := 21) kx_195_17 (by decide) ?_
        exact s_iret kx_195_21 (Or.inr ⟨kq_195, by omega⟩) ⟨_, rfl, rfl, (by omega)⟩
theorem kx_192_0 : x_code k_P 192 0 = some (.aload_n 0, 1) := by decide +kernel
theorem kx_192_1 : x_code k_P 192 1 = some (.getfield 146, 3) := by decide +kernel
theorem kp_192_146 : x_pool k_P 192 146 = (1, 12, 44) := by decide +kernel
theorem kf_12_44 : (x_cls k_P 12)[44]? = some 12 := by decide +kernel
theorem kx_192_4 : x_code k_P 192 4 = some (.aload_n 0, 1) := by decide +kernel
theorem kx_192_5 : x_code k_P 192 5 = some (.getfield 149, 3) := by decide +kernel
theorem kp_192_149 : x_pool k_P 192 149 = (1, 12, 45) := by decide +kernel
theorem kf_12_45 : (x_cls k_P 12)[45]? = some 0 := by decide +kernel
theorem kx_192_8 : x_code k_P 192 8 = some (.iload_n 1, 1) := by decide +kernel
theorem kx_192_9 : x_code k_P 192 9 = some (.iastore, 1) := by decide +kernel
theorem kx_192_10 : x_code k_P 192 10 = some (.aload_n 0, 1) := by decide +kernel
theorem kx_192_11 : x_code k_P 192 11 = some (.dup, 1) := by decide +kernel
theorem kx_192_12 : x_code k_P 192 12 = some (.getfield 149, 3) := by decide +kernel
theorem kx_192_15 : x_code k_P 192 15 = some (.iconst 1, 1) := by decide +kernel
theorem kx_192_16 : x_code k_P 192 16 = some (.iadd, 1) := by decide +kernel
theorem kx_192_17 : x_code k_P 192 17 = some (.putfield 149, 3) := by decide +kernel
theorem kx_192_20 : x_code k_P 192 20 = some (.return_, 1) := by decide +kernel
theorem kq_192 : x_retk k_P 192 = 0 := by decide +kernel
def fS_192_m : List (Nat × Nat) := [(63, 45), (90, 99999)]
theorem m_192 {xs : Nat → Int} {Ln d : Nat} {T : List cK} {M : cM} (hT : TT T) (hI : Rng M) {op : Int} (p0 : 0 ≤ op ∧ op ≤ 22) (p1 : M 63 45 ≤ 499) : cC k_P xs Ln (d + 0) 192 [rf 63, (0, op)] (T, M) (qV T M fS_192_m (fun M1 => M1 63 45 = M 63 45 + 1 ∧ M1 90 (M 63 45).toNat = op ∧ (∀ k, k ≠ (M 63 45).toNat → M1 90 k = M 90 k))) := by
  show cP k_P xs Ln (d + 0) 192 0 [(0, rf 63), (1, (0, op))] [] (T, M) _
  have hFm : Fr fS_192_m M M := Fr.refl
  refine s_aload_n kx_192_0 rfl ?_
  refine r_getR (k := 63) (f := 44) (k2 := 90) kx_192_1 kp_192_146 (tk_63 hT) kf_12_44 (by decide) (rq_63_44 hI) ?_
  refine s_aload_n kx_192_4 rfl ?_
  refine r_getI (k := 63) (f := 45) kx_192_5 kp_192_149 (tk_63 hT) kf_12_45 (fun _ => rfl) (rg_63_45 hI) (fun v1 v1e v1a v1b => ?_)
  refine s_iload_n kx_192_8 rfl ?_
  refine r_ast (k := 90) kx_192_9 (tk_90 hT) ⟨by omega, by omega⟩ hI (ru_90 (by omega) (by omega)) (fun M2 hI2 u2 => ?_)
  have hFm2 := hFm.up u2 rfl
  refine s_aload_n kx_192_10 rfl ?_
  refine s_dup kx_192_11 rfl ?_
  refine r_getK (k := 63) (f := 45) kx_192_12 kp_192_149 (tk_63 hT) kf_12_45 (fun _ => rfl) ((u2.2 63 45 (by omega)).trans v1e) ?_
  refine s_iconst (v := 1) kx_192_15 (by decide) ?_
  refine r_add kx_192_16 ⟨by omega, by omega⟩ ?_
  refine r_put (k := 63) (f := 45) kx_192_17 kp_192_149 (tk_63 hT) kf_12_45 rfl (by decide) (by decide) hI2 (ru_63_45 (by omega) (by omega)) (fun M3 hI3 u3 => ?_)
  have hFm3 := hFm2.up u3 rfl
  have hk4 : M3 63 45 = (v1 + 1) := u3.1
  exact s_vret kx_192_20 kq_192 ⟨_, rfl, rfl, hI3, hFm3, ⟨by omega, by rw [(show (M 63 45).toNat = (v1).toNat by rw [v1e])]; exact ((u3.2 90 _ (by omega)).trans u2.1), fun k hk => ((u3.2 90 k (by omega)).trans (u2.2 90 k (by rw [(show (M 63 45).toNat = (v1).toNat by rw [v1e])] at hk; omega)))⟩⟩
theorem kx_193_0 : x_code k_P 193 0 = some (.aload_n 0, 1) := by decide +kernel
theorem kx_193_1 : x_code k_P 193 1 = some (.getfield 124, 3) := by decide +kernel
theorem kp_193_124 : x_pool k_P 193 124 = (1, 12, 37) := by decide +kernel
theorem kf_12_37 : (x_cls k_P 12)[37]? = some 12 := by decide +kernel
theorem kx_193_4 : x_code k_P 193 4 = some (.aload_n 0, 1) := by decide +kernel
theorem kx_193_5 : x_code k_P 193 5 = some (.getfield 140, 3) := by decide +kernel
theorem kp_193_140 : x_pool k_P 193 140 = (1, 12, 42) := by decide +kernel
theorem kf_12_42 : (x_cls k_P 12)[42]? = some 0 := by decide +kernel
theorem kx_193_8 : x_code k_P 193 8 = some (.iload_n 1, 1) := by decide +kernel
theorem kx_193_9 : x_code k_P 193 9 = some (.iastore, 1) := by decide +kernel
theorem kx_193_10 : x_code k_P 193 10 = some (.aload_n 0, 1) := by decide +kernel
theorem kx_193_11 : x_code k_P 193 11 = some (.getfield 127, 3) := by decide +kernel
theorem kp_193_127 : x_pool k_P 193 127 = (1, 12, 38) := by decide +kernel
theorem kf_12_38 : (x_cls k_P 12)[38]? = some 12 := by decide +kernel
theorem kx_193_14 : x_code k_P 193 14 = some (.aload_n 0, 1) := by decide +kernel
theorem kx_193_15 : x_code k_P 193 15 = some (.getfield 140, 3) := by decide +kernel
theorem kx_193_18 : x_code k_P 193 18 = some (.iconst 0, 1) := by decide +kernel
theorem kx_193_19 : x_code k_P 193 19 = some (.iastore, 1) := by decide +kernel
theorem kx_193_20 : x_code k_P 193 20 = some (.aload_n 0, 1) := by decide +kernel
theorem kx_193_21 : x_code k_P 193 21 = some (.getfield 130, 3) := by decide +kernel
theorem kp_193_130 : x_pool k_P 193 130 = (1, 12, 39) := by decide +kernel
theorem kf_12_39 : (x_cls k_P 12)[39]? = some 12 := by decide +kernel
theorem kx_193_24 : x_code k_P 193 24 = some (.aload_n 0, 1) := by decide +kernel
theorem kx_193_25 : x_code k_P 193 25 = some (.getfield 140, 3) := by decide +kernel
theorem kx_193_28 : x_code k_P 193 28 = some (.iconst 1, 1) := by decide +kernel
theorem kx_193_29 : x_code k_P 193 29 = some (.bastore, 1) := by decide +kernel
theorem kx_193_30 : x_code k_P 193 30 = some (.aload_n 0, 1) := by decide +kernel
theorem kx_193_31 : x_code k_P 193 31 = some (.getfield 137, 3) := by decide +kernel
theorem kp_193_137 : x_pool k_P 193 137 = (1, 12, 41) := by decide +kernel
theorem kf_12_41 : (x_cls k_P 12)[41]? = some 12 := by decide +kernel
theorem kx_193_34 : x_code k_P 193 34 = some (.aload_n 0, 1) := by decide +kernel
theorem kx_193_35 : x_code k_P 193 35 = some (.getfield 140, 3) := by decide +kernel
theorem kx_193_38 : x_code k_P 193 38 = some (.aload_n 0, 1) := by decide +kernel
theorem kx_193_39 : x_code k_P 193 39 = some (.getfield 149, 3) := by decide +kernel
theorem kp_193_149 : x_pool k_P 193 149 = (1, 12, 45) := by decide +kernel
theorem kx_193_42 : x_code k_P 193 42 = some (.iastore, 1) := by decide +kernel
theorem kx_193_43 : x_code k_P 193 43 = some (.aload_n 0, 1) := by decide +kernel
theorem kx_193_44 : x_code k_P 193 44 = some (.dup, 1) := by decide +kernel
theorem kx_193_45 : x_code k_P 193 45 = some (.getfield 140, 3) := by decide +kernel
theorem kx_193_48 : x_code k_P 193 48 = some (.iconst 1, 1) := by decide +kernel
theorem kx_193_49 : x_code k_P 193 49 = some (.iadd, 1) := by decide +kernel
theorem kx_193_50 : x_code k_P 193 50 = some (.putfield 140, 3) := by decide +kernel
theorem kx_193_53 : x_code k_P 193 53 = some (.return_, 1) := by decide +kernel
theorem kq_193 : x_retk k_P 193 = 0 := by decide +kernel
def fS_193_m : List (Nat × Nat) := [(63, 42), (85, 99999), (86, 99999), (87, 99999), (89, 99999)]
theorem m_193 {xs : Nat → Int} {Ln d : Nat} {T : List cK} {M : cM} (hT : TT T) (hI : Rng M) {kind : Int} (p0 : 0 ≤ kind ∧ kind ≤ 6) (p1 : M 63 42 ≤ 7) : cC k_P xs Ln (d + 0) 193 [rf 63, (0, kind)] (T, M) (qV T M fS_193_m (fun M1 => Pu M M1 kind)) := by
  show cP k_P xs Ln (d + 0) 193 0 [(0, rf 63), (1, (0, kind))] [] (T, M) _
  have hFm : Fr fS_193_m M M := Fr.refl
  refine s_aload_n kx_193_0 rfl ?_
  refine r_getR (k := 63) (f := 37) (k2 := 85) kx_193_1 kp_193_124 (tk_63 hT) kf_12_37 (by decide) (rq_63_37 hI) ?_
  refine s_aload_n kx_193_4 rfl ?_
  refine r_getI (k := 63) (f := 42) kx_193_5 kp_193_140 (tk_63 hT) kf_12_42 (fun _ => rfl) (rg_63_42 hI) (fun v1 v1e v1a v1b => ?_)
  refine s_iload_n kx_193_8 rfl ?_
  refine r_ast (k := 85) kx_193_9 (tk_85 hT) ⟨by omega, by omega⟩ hI (ru_85 (by omega) (by omega)) (fun M2 hI2 u2 => ?_)
  have hFm2 := hFm.up u2 rfl
  refine s_aload_n kx_193_10 rfl ?_
  refine r_getR (k := 63) (f := 38) (k2 := 86) kx_193_11 kp_193_127 (tk_63 hT) kf_12_38 (by decide) (rq_63_38 hI2) ?_
  refine s_aload_n kx_193_14 rfl ?_
  refine r_getK (k := 63) (f := 42) kx_193_15 kp_193_140 (tk_63 hT) kf_12_42 (fun _ => rfl) ((u2.2 63 42 (by omega)).trans v1e) ?_
  refine s_iconst (v := 0) kx_193_18 (by decide) ?_
  refine r_ast (k := 86) kx_193_19 (tk_86 hT) ⟨by omega, by omega⟩ hI2 (ru_86 (by omega) (by omega)) (fun M3 hI3 u3 => ?_)
  have hFm3 := hFm2.up u3 rfl
  refine s_aload_n kx_193_20 rfl ?_
  refine r_getR (k := 63) (f := 39) (k2 := 87) kx_193_21 kp_193_130 (tk_63 hT) kf_12_39 (by decide) (rq_63_39 hI3) ?_
  refine s_aload_n kx_193_24 rfl ?_
  refine r_getK (k := 63) (f := 42) kx_193_25 kp_193_140 (tk_63 hT) kf_12_42 (fun _ => rfl) ((u3.2 63 42 (by omega)).trans ((u2.2 63 42 (by omega)).trans v1e)) ?_
  refine s_iconst (v := 1) kx_193_28 (by decide) ?_
  refine r_bast (k := 87) kx_193_29 (tk_87 hT) ⟨by omega, by omega⟩ (by omega) hI3 (ru_87 (by omega) (by omega)) (fun M4 hI4 u4 => ?_)
  have hFm4 := hFm3.up u4 rfl
  refine s_aload_n kx_193_30 rfl ?_
  refine r_getR (k := 63) (f := 41) (k2 := 89) kx_193_31 kp_193_137 (tk_63 hT) kf_12_41 (by decide) (rq_63_41 hI4) ?_
  refine s_aload_n kx_193_34 rfl ?_
  refine r_getK (k := 63) (f := 42) kx_193_35 kp_193_140 (tk_63 hT) kf_12_42 (fun _ => rfl) ((u4.2 63 42 (by omega)).trans ((u3.2 63 42 (by omega)).trans ((u2.2 63 42 (by omega)).trans v1e))) ?_
  refine s_aload_n kx_193_38 rfl ?_
  refine r_getI (k := 63) (f := 45) kx_193_39 kp_193_149 (tk_63 hT) kf_12_45 (fun _ => rfl) (rg_63_45 hI4) (fun v5 v5e v5a v5b => ?_)
  have v5z : M 63 45 = v5 := (((u4.2 63 45 (by omega)).trans ((u3.2 63 45 (by omega)).trans (u2.2 63 45 (by omega))))).symm.trans v5e
  refine r_ast (k := 89) kx_193_42 (tk_89 hT) ⟨by omega, by omega⟩ hI4 (ru_89 (by omega) (by omega)) (fun M6 hI6 u6 => ?_)
  have hFm6 := hFm4.up u6 rfl
  refine s_aload_n kx_193_43 rfl ?_
  refine s_dup kx_193_44 rfl ?_
  refine r_getK (k := 63) (f := 42) kx_193_45 kp_193_140 (tk_63 hT) kf_12_42 (fun _ => rfl) ((u6.2 63 42 (by omega)).trans ((u4.2 63 42 (by omega)).trans ((u3.2 63 42 (by omega)).trans ((u2.2 63 42 (by omega)).trans v1e)))) ?_
  refine s_iconst (v := 1) kx_193_48 (by decide) ?_
  refine r_add kx_193_49 ⟨by omega, by omega⟩ ?_
  refine r_put (k := 63) (f := 42) kx_193_50 kp_193_140 (tk_63 hT) kf_12_42 rfl (by decide) (by decide) hI6 (ru_63_42 (by omega) (by omega)) (fun M7 hI7 u7 => ?_)
  have hFm7 := hFm6.up u7 rfl
  have hk8 : M7 63 42 = (v1 + 1) := u7.1
  exact s_vret kx_193_53 kq_193 ⟨_, rfl, rfl, hI7, hFm7, ⟨by omega, (by rw [(show (M 63 42).toNat = (v1).toNat by rw [v1e])]; exact ((u7.2 85 _ (by omega)).trans ((u6.2 85 _ (by omega)).trans ((u4.2 85 _ (by omega)).trans ((u3.2 85 _ (by omega)).trans u2.1))))), (by rw [(show (M 63 42).toNat = (v1).toNat by rw [v1e])]; exact ((u7.2 86 _ (by omega)).trans ((u6.2 86 _ (by omega)).trans ((u4.2 86 _ (by omega)).trans u3.1)))), (by rw [(show (M 63 42).toNat = (v1).toNat by rw [v1e])]; exact ((u7.2 87 _ (by omega)).trans ((u6.2 87 _ (by omega)).trans u4.1))), (by rw [(show (M 63 42).toNat = (v1).toNat by rw [v1e]), v5z]; exact ((u7.2 89 _ (by omega)).trans u6.1)), (fun w i hi w1 w2 => by rw [(show (M 63 42).toNat = (v1).toNat by rw [v1e])] at hi; exact ((u7.2 w i (by omega)).trans ((u6.2 w i (by omega)).trans ((u4.2 w i (by omega)).trans ((u3.2 w i (by omega)).trans (u2.2 w i (by omega))))))), ((u7.2 88 _ (by omega)).trans ((u6.2 88 _ (by omega)).trans ((u4.2 88 _ (by omega)).trans ((u3.2 88 _ (by omega)).trans (u2.2 88 _ (by omega))))))⟩⟩
theorem kx_191_0 : x_code k_P 191 0 = some (.aload_n 0, 1) := by decide +kernel
theorem kx_191_1 : x_code k_P 191 1 = some (.getfield 149, 3) := by decide +kernel
theorem kp_191_149 : x_pool k_P 191 149 = (1, 12, 45) := by decide +kernel
theorem kx_191_4 : x_code k_P 191 4 = some (.aload_n 0, 1) := by decide +kernel
theorem kx_191_5 : x_code k_P 191 5 = some (.getfield 137, 3) := by decide +kernel
theorem kp_191_137 : x_pool k_P 191 137 = (1, 12, 41) := by decide +kernel
theorem kx_191_8 : x_code k_P 191 8 = some (.aload_n 0, 1) := by decide +kernel
theorem kx_191_9 : x_code k_P 191 9 = some (.getfield 140, 3) := by decide +kernel
theorem kp_191_140 : x_pool k_P 191 140 = (1, 12, 42) := by decide +kernel
theorem kx_191_12 : x_code k_P 191 12 = some (.iconst 1, 1) := by decide +kernel
theorem kx_191_13 : x_code k_P 191 13 = some (.isub, 1) := by decide +kernel
theorem kx_191_14 : x_code k_P 191 14 = some (.iaload, 1) := by decide +kernel
theorem kx_191_15 : x_code k_P 191 15 = some (.if_icmp .le 72, 3) := by decide +kernel
theorem kx_191_87 : x_code k_P 191 87 = some (.return_, 1) := by decide +kernel
theorem kq_191 : x_retk k_P 191 = 0 := by decide +kernel
theorem kx_191_18 : x_code k_P 191 18 = some (.aload_n 0, 1) := by decide +kernel
theorem kx_191_19 : x_code k_P 191 19 = some (.getfield 146, 3) := by decide +kernel
theorem kp_191_146 : x_pool k_P 191 146 = (1, 12, 44) := by decide +kernel
theorem kx_191_22 : x_code k_P 191 22 = some (.aload_n 0, 1) := by decide +kernel
theorem kx_191_23 : x_code k_P 191 23 = some (.getfield 149, 3) := by decide +kernel
theorem kx_191_26 : x_code k_P 191 26 = some (.iconst 1, 1) := by decide +kernel
theorem kx_191_27 : x_code k_P 191 27 = some (.isub, 1) := by decide +kernel
theorem kx_191_28 : x_code k_P 191 28 = some (.iaload, 1) := by decide +kernel
theorem kx_191_29 : x_code k_P 191 29 = some (.invokestatic 349, 3) := by decide +kernel
theorem kp_191_349 : x_pool k_P 191 349 = (6, 190, 1) := by decide +kernel
theorem kcl_190 : x_maxL k_P 190 ≤ 60 ∧ 1 ≤ x_maxL k_P 190 := by decide +kernel
theorem kx_191_32 : x_code k_P 191 32 = some (.iload_n 1, 1) := by decide +kernel
theorem kx_191_33 : x_code k_P 191 33 = some (.if_icmp .lt 54, 3) := by decide +kernel
theorem kx_191_36 : x_code k_P 191 36 = some (.aload_n 0, 1) := by decide +kernel
theorem kx_191_37 : x_code k_P 191 37 = some (.dup, 1) := by decide +kernel
theorem kx_191_38 : x_code k_P 191 38 = some (.getfield 149, 3) := by decide +kernel
theorem kx_191_41 : x_code k_P 191 41 = some (.iconst 1, 1) := by decide +kernel
theorem kx_191_42 : x_code k_P 191 42 = some (.isub, 1) := by decide +kernel
theorem kx_191_43 : x_code k_P 191 43 = some (.putfield 149, 3) := by decide +kernel
theorem kx_191_46 : x_code k_P 191 46 = some (.aload_n 0, 1) := by decide +kernel
theorem kx_191_47 : x_code k_P 191 47 = some (.aload_n 0, 1) := by decide +kernel
theorem kx_191_48 : x_code k_P 191 48 = some (.getfield 146, 3) := by decide +kernel
theorem kx_191_51 : x_code k_P 191 51 = some (.aload_n 0, 1) := by decide +kernel
theorem kx_191_52 : x_code k_P 191 52 = some (.getfield 149, 3) := by decide +kernel
theorem kx_191_55 : x_code k_P 191 55 = some (.iaload, 1) := by decide +kernel
theorem kx_191_56 : x_code k_P 191 56 = some (.iconst 0, 1) := by decide +kernel
theorem kx_191_57 : x_code k_P 191 57 = some (.invokevirtual 352, 3) := by decide +kernel
theorem kp_191_352 : x_pool k_P 191 352 = (2, 189, 2) := by decide +kernel
theorem ki_189 : x_mci k_P 189 = 12 := by decide +kernel
theorem kcl_189 : x_maxL k_P 189 ≤ 60 ∧ 3 ≤ x_maxL k_P 189 := by decide +kernel
theorem kx_191_60 : x_code k_P 191 60 = some (.aload_n 0, 1) := by decide +kernel
theorem kx_191_61 : x_code k_P 191 61 = some (.getfield 146, 3) := by decide +kernel
theorem kx_191_64 : x_code k_P 191 64 = some (.aload_n 0, 1) := by decide +kernel
theorem kx_191_65 : x_code k_P 191 65 = some (.getfield 149, 3) := by decide +kernel
theorem kx_191_68 : x_code k_P 191 68 = some (.iaload, 1) := by decide +kernel
theorem kx_191_69 : x_code k_P 191 69 = some (.bipush 22, 2) := by decide +kernel
theorem kx_191_71 : x_code k_P 191 71 = some (.if_icmp .ne (-71), 3) := by decide +kernel
theorem kx_191_74 : x_code k_P 191 74 = some (.aload_n 0, 1) := by decide +kernel
theorem kx_191_75 : x_code k_P 191 75 = some (.dup, 1) := by decide +kernel
theorem kx_191_76 : x_code k_P 191 76 = some (.getfield 143, 3) := by decide +kernel
theorem kp_191_143 : x_pool k_P 191 143 = (1, 12, 43) := by decide +kernel
theorem kf_12_43 : (x_cls k_P 12)[43]? = some 0 := by decide +kernel
theorem kx_191_79 : x_code k_P 191 79 = some (.iconst 1, 1) := by decide +kernel
theorem kx_191_80 : x_code k_P 191 80 = some (.isub, 1) := by decide +kernel
theorem kx_191_81 : x_code k_P 191 81 = some (.putfield 143, 3) := by decide +kernel
theorem kx_191_84 : x_code k_P 191 84 = some (.goto (-84), 3) := by decide +kernel
def fS_191_l0 : List (Nat × Nat) := [(63, 35), (63, 43), (63, 45), (81, 99999), (82, 99999)]
def fS_191_m : List (Nat × Nat) := [(63, 35), (63, 43), (63, 45), (81, 99999), (82, 99999)]
theorem m_191 {xs : Nat → Int} {Ln d : Nat} {T : List cK} {M : cM} (hT : TT T) (hI : Rng M) {least : Int} {c : Nat → Int} {a q e : Int} (hP : PI M c a 1 7 q e) (p0 : 1 ≤ least ∧ least ≤ 6) (p1 : q ≤ 1600) (p2 : 0 ≤ e) : cC k_P xs Ln (d + 1) 191 [rf 63, (0, least)] (T, M) (qV T M fS_191_m (fun M1 => PI M1 c a 1 least q e)) := by
  show cP k_P xs Ln (d + 1) 191 0 [(0, rf 63), (1, (0, least))] [] (T, M) _
  have hFm : Fr fS_191_m M M := Fr.refl
  have key2 : ∀ n3 : Nat, ∀ M1 : cM, Rng M1 → Fr fS_191_m M M1 → Fr fS_191_l0 M M1 → (PI M1 c a 1 7 q e) → (M1 63 45).toNat < n3 → cP k_P xs Ln (d + 1) 191 0 [(0, rf 63), (1, (0, least))] [] (T, M1) (qV T M fS_191_m (fun M1 => PI M1 c a 1 least q e)) := by
    intro n3
    induction n3 with
    | zero => intro M1 hI1 hFm1 fl1 i4 hm5; exact absurd hm5 (Nat.not_lt_zero _)
    | succ n3 ih6 =>
      intro M1 hI1 hFm1 fl1 i4 hm5
      have hd := PI.deep i4
      refine s_aload_n kx_191_0 rfl ?_
      refine r_getI (k := 63) (f := 45) kx_191_1 kp_191_149 (tk_63 hT) kf_12_45 (fun _ => rfl) (rg_63_45 hI1) (fun v7 v7e v7a v7b => ?_)
      refine s_aload_n kx_191_4 rfl ?_
      refine r_getR (k := 63) (f := 41) (k2 := 89) kx_191_5 kp_191_137 (tk_63 hT) kf_12_41 (by decide) (rq_63_41 hI1) ?_
      refine s_aload_n kx_191_8 rfl ?_
      refine r_getI (k := 63) (f := 42) kx_191_9 kp_191_140 (tk_63 hT) kf_12_42 (fun _ => rfl) (rg_63_42 hI1) (fun v8 v8e v8a v8b => ?_)
      have v8z : M 63 42 = v8 := ((fl1 63 42 rfl)).symm.trans v8e
      refine s_iconst (v := 1) kx_191_12 (by decide) ?_
      refine r_sub kx_191_13 ⟨by omega, by omega⟩ ?_
      refine r_ald (k := 89) kx_191_14 (tk_89 hT) ⟨by omega, by omega⟩ (rg_89 hI1) (fun v9 v9e v9a v9b => ?_)
      refine s_icmp_le (t := 87) kx_191_15 (by decide) (fun hc10 => ?_) (fun hc10 => ?_)
      · exact s_vret kx_191_87 kq_191 ⟨_, rfl, rfl, hI1, hFm1, (PI.exit1 i4 (f := (v8 - 1)) (by omega) (by omega))⟩
      · refine s_aload_n kx_191_18 rfl ?_
        refine r_getR (k := 63) (f := 44) (k2 := 90) kx_191_19 kp_191_146 (tk_63 hT) kf_12_44 (by decide) (rq_63_44 hI1) ?_
        refine s_aload_n kx_191_22 rfl ?_
        refine r_getK (k := 63) (f := 45) kx_191_23 kp_191_149 (tk_63 hT) kf_12_45 (fun _ => rfl) v7e ?_
        refine s_iconst (v := 1) kx_191_26 (by decide) ?_
        refine r_sub kx_191_27 ⟨by omega, by omega⟩ ?_
        refine r_ald (k := 90) kx_191_28 (tk_90 hT) ⟨by omega, by omega⟩ (rg_90 hI1) (fun v11 v11e v11a v11b => ?_)
        refine s_callS2 (s1 := 1) (s2 := 0) (as := [(0, v11)]) (rest := []) kx_191_29 kp_191_349 rfl kcl_190 rfl rfl (by decide) (m_190 (d := d) (op := v11) hT hI1) (kF (fun v12 v12p => ?_))
        refine s_iload_n kx_191_32 rfl ?_
        refine s_icmp_lt (t := 87) kx_191_33 (by decide) (fun hc13 => ?_) (fun hc13 => ?_)
        · exact s_vret kx_191_87 kq_191 ⟨_, rfl, rfl, hI1, hFm1, (PI.exit2 i4 (f := (v8 - 1)) (v := (v7 - 1)) (by omega) (by omega) (by omega) v11e (by omega))⟩
        · refine s_aload_n kx_191_36 rfl ?_
          refine s_dup kx_191_37 rfl ?_
          refine r_getK (k := 63) (f := 45) kx_191_38 kp_191_149 (tk_63 hT) kf_12_45 (fun _ => rfl) v7e ?_
          refine s_iconst (v := 1) kx_191_41 (by decide) ?_
          refine r_sub kx_191_42 ⟨by omega, by omega⟩ ?_
          refine r_put (k := 63) (f := 45) kx_191_43 kp_191_149 (tk_63 hT) kf_12_45 rfl (by decide) (by decide) hI1 (ru_63_45 (by omega) (by omega)) (fun M14 hI14 u14 => ?_)
          have hFm14 := hFm1.up u14 rfl
          have hFl014 := fl1.up u14 rfl
          have tr15 := (u14.2 63 35 (by omega))
          have tr16 := (u14.2 63 36 (by omega))
          have tr17 := (u14.2 63 42 (by omega))
          have tr18 := (u14.2 63 43 (by omega))
          refine s_aload_n kx_191_46 rfl ?_
          refine s_aload_n kx_191_47 rfl ?_
          refine r_getR (k := 63) (f := 44) (k2 := 90) kx_191_48 kp_191_146 (tk_63 hT) kf_12_44 (by decide) (rq_63_44 hI14) ?_
          refine s_aload_n kx_191_51 rfl ?_
          refine r_getK (k := 63) (f := 45) kx_191_52 kp_191_149 (tk_63 hT) kf_12_45 (fun _ => rfl) u14.1 ?_
          refine r_aldK (k := 90) kx_191_55 (tk_90 hT) ⟨by omega, by omega⟩ ((u14.2 90 _ (by omega)).trans v11e) ?_
          refine s_iconst (v := 0) kx_191_56 (by decide) ?_
          refine s_callV2 (k := 63) (s1 := 3) (s2 := 0) (as := [(0, 0), (0, v11)]) (rest := []) kx_191_57 kp_191_352 (Or.inl rfl) rfl (tk_63 hT) ki_189 kcl_189 rfl rfl (by decide) (m_189 (d := d) (sort := v11) (v_ := 0) hT hI14 (by omega) (by omega)) (kV (fun M20 hI20 fr20 v19p => ?_))
          have hFm20 := hFm14.call fr20 rfl
          have hFl020 := hFl014.call fr20 rfl
          have tr21 := (fr20 63 42 rfl)
          have tr22 := (fr20 63 43 rfl)
          have tr23 := (fr20 63 45 rfl)
          refine s_aload_n kx_191_60 rfl ?_
          refine r_getR (k := 63) (f := 44) (k2 := 90) kx_191_61 kp_191_146 (tk_63 hT) kf_12_44 (by decide) (rq_63_44 hI20) ?_
          refine s_aload_n kx_191_64 rfl ?_
          refine r_getK (k := 63) (f := 45) kx_191_65 kp_191_149 (tk_63 hT) kf_12_45 (fun _ => rfl) ((fr20 63 45 rfl).trans u14.1) ?_
          refine r_aldK (k := 90) kx_191_68 (tk_90 hT) ⟨by omega, by omega⟩ ((fr20 90 _ rfl).trans ((u14.2 90 _ (by omega)).trans v11e)) ?_
          refine s_bipush (v := 22) kx_191_69 (by decide) ?_
          refine s_icmp_ne (t := 0) kx_191_71 (by decide) (fun hc24 => ?_) (fun hc24 => ?_)
          · have hk25 : M20 63 45 = (v7 - 1) := ((fr20 63 45 rfl).trans u14.1)
            exact cP.wk (lS1 rfl (lS1 rfl lS0)) (ih6 M20 hI20 hFm20 hFl020 (PI.popB i4 (f := (v8 - 1)) (by omega) (by omega) (by omega) u14 ((u14.2 90 _ (by omega)).trans v11e) (by omega) fr20 v19p.1 v19p.2.1 v19p.2.2) (by omega))
          · have ho22 : v11 = 22 := by omega
            have hpn := PI.popN i4 (f := (v8 - 1)) (by omega) (by omega) (by omega) u14 (((u14.2 90 _ (by omega)).trans v11e).trans ho22) fr20 v19p.1 (v19p.2.1.trans ho22) v19p.2.2
            have hop := PI.e_le hpn
            refine s_aload_n kx_191_74 rfl ?_
            refine s_dup kx_191_75 rfl ?_
            refine r_getI (k := 63) (f := 43) kx_191_76 kp_191_143 (tk_63 hT) kf_12_43 (fun _ => rfl) (rg_63_43 hI20) (fun v26 v26e v26a v26b => ?_)
            refine s_iconst (v := 1) kx_191_79 (by decide) ?_
            refine r_sub kx_191_80 ⟨by omega, by omega⟩ ?_
            refine r_put (k := 63) (f := 43) kx_191_81 kp_191_143 (tk_63 hT) kf_12_43 rfl (by decide) (by decide) hI20 (ru_63_43 (by omega) (by omega)) (fun M27 hI27 u27 => ?_)
            have hFm27 := hFm20.up u27 rfl
            have hFl027 := hFl020.up u27 rfl
            have tr28 := (u27.2 63 35 (by omega))
            have tr29 := (u27.2 63 36 (by omega))
            have tr30 := (u27.2 63 42 (by omega))
            refine s_goto (t := 0) kx_191_84 (by decide) ?_
            have hk31 : M27 63 45 = (v7 - 1) := ((u27.2 63 45 (by omega)).trans ((fr20 63 45 rfl).trans u14.1))
            exact cP.wk (lS1 rfl (lS1 rfl lS0)) (ih6 M27 hI27 hFm27 hFl027 (PI.opn (e' := e) hpn u27 (by omega)) (by omega))
  exact cP.wk (lS1 rfl (lS1 rfl lS0)) (key2 _ M hI hFm Fr.refl hP (Nat.lt_succ_self _))
theorem kx_194_0 : x_code k_P 194 0 = some (.aload_n 0, 1) := by decide +kernel
theorem kx_194_1 : x_code k_P 194 1 = some (.getfield 143, 3) := by decide +kernel
theorem kp_194_143 : x_pool k_P 194 143 = (1, 12, 43) := by decide +kernel
theorem kx_194_4 : x_code k_P 194 4 = some (.bipush 7, 2) := by decide +kernel
theorem kx_194_6 : x_code k_P 194 6 = some (.if_icmp .ne 12, 3) := by decide +kernel
theorem kx_194_18 : x_code k_P 194 18 = some (.aload_n 0, 1) := by decide +kernel
theorem kx_194_19 : x_code k_P 194 19 = some (.getfield 39, 3) := by decide +kernel
theorem kp_194_39 : x_pool k_P 194 39 = (1, 12, 9) := by decide +kernel
theorem kx_194_22 : x_code k_P 194 22 = some (.ifCond .le 4, 3) := by decide +kernel
theorem kx_194_26 : x_code k_P 194 26 = some (.aload_n 0, 1) := by decide +kernel
theorem kx_194_27 : x_code k_P 194 27 = some (.dup, 1) := by decide +kernel
theorem kx_194_28 : x_code k_P 194 28 = some (.getfield 143, 3) := by decide +kernel
theorem kx_194_31 : x_code k_P 194 31 = some (.iconst 1, 1) := by decide +kernel
theorem kx_194_32 : x_code k_P 194 32 = some (.iadd, 1) := by decide +kernel
theorem kx_194_33 : x_code k_P 194 33 = some (.putfield 143, 3) := by decide +kernel
theorem kx_194_36 : x_code k_P 194 36 = some (.aload_n 0, 1) := by decide +kernel
theorem kx_194_37 : x_code k_P 194 37 = some (.invokevirtual 286, 3) := by decide +kernel
theorem kp_194_286 : x_pool k_P 194 286 = (2, 180, 0) := by decide +kernel
theorem kx_194_40 : x_code k_P 194 40 = some (.aload_n 0, 1) := by decide +kernel
theorem kx_194_41 : x_code k_P 194 41 = some (.iload_n 1, 1) := by decide +kernel
theorem kx_194_42 : x_code k_P 194 42 = some (.invokevirtual 355, 3) := by decide +kernel
theorem kp_194_355 : x_pool k_P 194 355 = (2, 193, 1) := by decide +kernel
theorem ki_193 : x_mci k_P 193 = 12 := by decide +kernel
theorem kcl_193 : x_maxL k_P 193 ≤ 60 ∧ 2 ≤ x_maxL k_P 193 := by decide +kernel
theorem kx_194_45 : x_code k_P 194 45 = some (.return_, 1) := by decide +kernel
theorem kq_194 : x_retk k_P 194 = 0 := by decide +kernel
theorem kx_194_25 : x_code k_P 194 25 = some (.return_, 1) := by decide +kernel
theorem kx_194_9 : x_code k_P 194 9 = some (.aload_n 0, 1) := by decide +kernel
theorem kx_194_10 : x_code k_P 194 10 = some (.iconst 5, 1) := by decide +kernel
theorem kx_194_11 : x_code k_P 194 11 = some (.aload_n 0, 1) := by decide +kernel
theorem kx_194_12 : x_code k_P 194 12 = some (.getfield 23, 3) := by decide +kernel
theorem kp_194_23 : x_pool k_P 194 23 = (1, 12, 4) := by decide +kernel
theorem kx_194_15 : x_code k_P 194 15 = some (.invokevirtual 263, 3) := by decide +kernel
theorem kp_194_263 : x_pool k_P 194 263 = (2, 176, 2) := by decide +kernel
def fS_194_m : List (Nat × Nat) := [(63, 10), (63, 13), (63, 3), (63, 4), (63, 42), (63, 43), (63, 5), (63, 6), (63, 7), (63, 8), (63, 9), (85, 99999), (86, 99999), (87, 99999), (89, 99999)]
theorem m_194 {xs : Nat → Int} {Ln d : Nat} {T : List cK} {M : cM} (hT : TT T) (hI : Rng M) {kind : Int} (hX : LXp M) {c : Nat → Int} {a q : Int} (hP : PI M c a 0 7 q 0) (hB : B0 M) (p0 : 0 ≤ kind ∧ kind ≤ 6) : cC k_P xs Ln (d + 2) 194 [rf 63, (0, kind)] (T, M) (qV T M fS_194_m (fun M1 => LXp M1 ∧ M 63 4 ≤ M1 63 4 ∧ M 63 9 ≤ M1 63 9 ∧ (1 ≤ M1 63 9 ∨ (M 63 9 = 0 ∧ M 63 5 ≤ M1 63 4 ∧ 1 ≤ M1 63 42 ∧ PQ M1 c a (q + 1) kind)))) := by
  show cP k_P xs Ln (d + 2) 194 0 [(0, rf 63), (1, (0, kind))] [] (T, M) _
  have hFm : Fr fS_194_m M M := Fr.refl
  have h639 := rg_63_9 hI
  have ⟨lx1, lx2⟩ := hX
  have hdd := PI.deep hP
  refine s_aload_n kx_194_0 rfl ?_
  refine r_getI (k := 63) (f := 43) kx_194_1 kp_194_143 (tk_63 hT) kf_12_43 (fun _ => rfl) (rg_63_43 hI) (fun v1 v1e v1a v1b => ?_)
  refine s_bipush (v := 7) kx_194_4 (by decide) ?_
  refine s_icmp_ne (t := 18) kx_194_6 (by decide) (fun hc2 => ?_) (fun hc2 => ?_)
  · refine s_aload_n kx_194_18 rfl ?_
    refine r_getI (k := 63) (f := 9) kx_194_19 kp_194_39 (tk_63 hT) kf_12_9 (fun _ => rfl) (rg_63_9 hI) (fun v3 v3e v3a v3b => ?_)
    refine s_if_le (t := 26) kx_194_22 (by decide) (fun hc4 => ?_) (fun hc4 => ?_)
    · refine s_aload_n kx_194_26 rfl ?_
      refine s_dup kx_194_27 rfl ?_
      refine r_getK (k := 63) (f := 43) kx_194_28 kp_194_143 (tk_63 hT) kf_12_43 (fun _ => rfl) v1e ?_
      refine s_iconst (v := 1) kx_194_31 (by decide) ?_
      refine r_add kx_194_32 ⟨by omega, by omega⟩ ?_
      refine r_put (k := 63) (f := 43) kx_194_33 kp_194_143 (tk_63 hT) kf_12_43 rfl (by decide) (by decide) hI (ru_63_43 (by omega) (by omega)) (fun M5 hI5 u5 => ?_)
      have hFm5 := hFm.up u5 rfl
      have tr6 := (u5.2 63 3 (by omega))
      have tr7 := (u5.2 63 4 (by omega))
      have tr8 := (u5.2 63 5 (by omega))
      have tr9 := (u5.2 63 9 (by omega))
      have tr10 := (u5.2 63 35 (by omega))
      have tr11 := (u5.2 63 42 (by omega))
      have tr12 := u5.1
      have tr13 := (u5.2 63 45 (by omega))
      refine s_aload_n kx_194_36 rfl ?_
      refine s_callV2 (k := 63) (s1 := 1) (s2 := 0) (as := []) (rest := []) kx_194_37 kp_194_286 (Or.inl rfl) rfl (tk_63 hT) ki_180 kcl_180 rfl rfl (by decide) (m_180 (d := d) hT hI5) (kV (fun M15 hI15 fr15 v14p => ?_))
      have hFm15 := hFm5.call fr15 rfl
      have tr16 := (fr15 63 9 rfl)
      have tr17 := (fr15 63 35 rfl)
      have tr18 := (fr15 63 42 rfl)
      have tr19 := (fr15 63 43 rfl)
      have tr20 := (fr15 63 45 rfl)
      have tr21 := rg_63_9 hI15
      refine s_aload_n kx_194_40 rfl ?_
      refine s_iload_n kx_194_41 rfl ?_
      have hdo := PI.dop (PI.fr (PI.opn (e' := 1) hP u5 (by omega)) fr15 rfl)
      refine s_callV2 (k := 63) (s1 := 2) (s2 := 0) (as := [(0, kind)]) (rest := []) kx_194_42 kp_194_355 (Or.inl rfl) rfl (tk_63 hT) ki_193 kcl_193 rfl rfl (by decide) (m_193 (d := d + 1) (kind := kind) hT hI15 (by omega) (by omega)) (kV (fun M23 hI23 fr23 v22p => ?_))
      have hFm23 := hFm15.call fr23 rfl
      have tr24 := (fr23 63 3 rfl)
      have tr25 := (fr23 63 4 rfl)
      have tr26 := (fr23 63 5 rfl)
      have tr27 := (fr23 63 9 rfl)
      have tr28 := (fr23 63 35 rfl)
      have tr29 := (fr23 63 43 rfl)
      have tr30 := (fr23 63 45 rfl)
      have tr31 := rg_63_9 hI23
      have hpq := PI.push (PI.fr (PI.opn (e' := 1) hP u5 (by omega)) fr15 rfl) rfl (B0.fr (B0.up hB u5 (by decide)) fr15 rfl (fun _ => rfl)) fr23 v22p
      have hq1 := v22p.1
      have hk32 : M23 63 9 = v3 := ((fr23 63 9 rfl).trans ((fr15 63 9 rfl).trans ((u5.2 63 9 (by omega)).trans v3e)))
      exact s_vret kx_194_45 kq_194 ⟨_, rfl, rfl, hI23, hFm23, ⟨(LXp.fr (show LXp M15 from v14p.2) fr23 rfl), (by omega), (by omega), (Or.inr ⟨by omega, by omega, by omega, hpq⟩)⟩⟩
    · have hk33 : M 63 9 = v3 := v3e
      exact s_vret kx_194_25 kq_194 ⟨_, rfl, rfl, hI, hFm, ⟨hX, (by omega), (by omega), (Or.inl (by omega))⟩⟩
  · refine s_aload_n kx_194_9 rfl ?_
    refine s_iconst (v := 5) kx_194_10 (by decide) ?_
    refine s_aload_n kx_194_11 rfl ?_
    refine r_getI (k := 63) (f := 4) kx_194_12 kp_194_23 (tk_63 hT) kf_12_4 (fun _ => rfl) (rg_63_4 hI) (fun v34 v34e v34a v34b => ?_)
    refine s_callV2 (k := 63) (s1 := 3) (s2 := 0) (as := [(0, v34), (0, 5)]) (rest := []) kx_194_15 kp_194_263 (Or.inl rfl) rfl (tk_63 hT) ki_176 kcl_176 rfl rfl (by decide) (m_176 (d := d + 1) (kind := 5) (place := v34) hT hI (by omega)) (kV (fun M36 hI36 fr36 v35p => ?_))
    have hFm36 := hFm.call fr36 rfl
    have tr37 := (fr36 63 3 rfl)
    have tr38 := (fr36 63 4 rfl)
    have tr39 := (fr36 63 5 rfl)
    have tr40 := (fr36 63 35 rfl)
    have tr41 := (fr36 63 42 rfl)
    have tr42 := (fr36 63 43 rfl)
    have tr43 := (fr36 63 45 rfl)
    have tr44 := rg_63_9 hI36
    refine s_aload_n kx_194_18 rfl ?_
    refine r_getI (k := 63) (f := 9) kx_194_19 kp_194_39 (tk_63 hT) kf_12_9 (fun _ => rfl) (rg_63_9 hI36) (fun v45 v45e v45a v45b => ?_)
    refine s_if_le (t := 26) kx_194_22 (by decide) (fun hc46 => ?_) (fun hc46 => ?_)
    · refine s_aload_n kx_194_26 rfl ?_
      refine s_dup kx_194_27 rfl ?_
      refine r_getK (k := 63) (f := 43) kx_194_28 kp_194_143 (tk_63 hT) kf_12_43 (fun _ => rfl) ((fr36 63 43 rfl).trans v1e) ?_
      refine s_iconst (v := 1) kx_194_31 (by decide) ?_
      refine r_add kx_194_32 ⟨by omega, by omega⟩ ?_
      refine r_put (k := 63) (f := 43) kx_194_33 kp_194_143 (tk_63 hT) kf_12_43 rfl (by decide) (by decide) hI36 (ru_63_43 (by omega) (by omega)) (fun M47 hI47 u47 => ?_)
      have hFm47 := hFm36.up u47 rfl
      have tr48 := (u47.2 63 3 (by omega))
      have tr49 := (u47.2 63 4 (by omega))
      have tr50 := (u47.2 63 5 (by omega))
      have tr51 := (u47.2 63 9 (by omega))
      have tr52 := (u47.2 63 35 (by omega))
      have tr53 := (u47.2 63 42 (by omega))
      have tr54 := u47.1
      have tr55 := (u47.2 63 45 (by omega))
      refine s_aload_n kx_194_36 rfl ?_
      refine s_callV2 (k := 63) (s1 := 1) (s2 := 0) (as := []) (rest := []) kx_194_37 kp_194_286 (Or.inl rfl) rfl (tk_63 hT) ki_180 kcl_180 rfl rfl (by decide) (m_180 (d := d) hT hI47) (kV (fun M57 hI57 fr57 v56p => ?_))
      have hFm57 := hFm47.call fr57 rfl
      have tr58 := (fr57 63 9 rfl)
      have tr59 := (fr57 63 35 rfl)
      have tr60 := (fr57 63 42 rfl)
      have tr61 := (fr57 63 43 rfl)
      have tr62 := (fr57 63 45 rfl)
      have tr63 := rg_63_9 hI57
      refine s_aload_n kx_194_40 rfl ?_
      refine s_iload_n kx_194_41 rfl ?_
      have hdo := PI.dop (PI.fr (PI.opn (e' := 1) (PI.fr hP fr36 rfl) u47 (by omega)) fr57 rfl)
      refine s_callV2 (k := 63) (s1 := 2) (s2 := 0) (as := [(0, kind)]) (rest := []) kx_194_42 kp_194_355 (Or.inl rfl) rfl (tk_63 hT) ki_193 kcl_193 rfl rfl (by decide) (m_193 (d := d + 1) (kind := kind) hT hI57 (by omega) (by omega)) (kV (fun M65 hI65 fr65 v64p => ?_))
      have hFm65 := hFm57.call fr65 rfl
      have tr66 := (fr65 63 3 rfl)
      have tr67 := (fr65 63 4 rfl)
      have tr68 := (fr65 63 5 rfl)
      have tr69 := (fr65 63 9 rfl)
      have tr70 := (fr65 63 35 rfl)
      have tr71 := (fr65 63 43 rfl)
      have tr72 := (fr65 63 45 rfl)
      have tr73 := rg_63_9 hI65
      have hpq := PI.push (PI.fr (PI.opn (e' := 1) (PI.fr hP fr36 rfl) u47 (by omega)) fr57 rfl) rfl (B0.fr (B0.up (B0.fr hB fr36 rfl (fun _ => rfl)) u47 (by decide)) fr57 rfl (fun _ => rfl)) fr65 v64p
      have hq1 := v64p.1
      have hk74 : M65 63 9 = v45 := ((fr65 63 9 rfl).trans ((fr57 63 9 rfl).trans ((u47.2 63 9 (by omega)).trans v45e)))
      exact s_vret kx_194_45 kq_194 ⟨_, rfl, rfl, hI65, hFm65, ⟨(LXp.fr (show LXp M57 from v56p.2) fr65 rfl), (by omega), (by omega), (Or.inr ⟨by omega, by omega, by omega, hpq⟩)⟩⟩
    · have hk75 : M36 63 4 = v34 := ((fr36 63 4 rfl).trans v34e)
      have hk76 : M36 63 9 = v45 := v45e
      exact s_vret kx_194_25 kq_194 ⟨_, rfl, rfl, hI36, hFm36, ⟨(LXp.fr hX fr36 rfl), (by omega), (by omega), (Or.inl (by omega))⟩⟩
theorem kx_196_0 : x_code k_P 196 0 = some (.aload_n 0, 1) := by decide +kernel
theorem kx_196_1 : x_code k_P 196 1 = some (.invokevirtual 280, 3) := by decide +kernel
theorem kp_196_280 : x_pool k_P 196 280 = (2, 179, 0) := by decide +kernel
theorem kx_196_4 : x_code k_P 196 4 = some (.aload_n 0, 1) := by decide +kernel
theorem kx_196_5 : x_code k_P 196 5 = some (.getfield 39, 3) := by decide +kernel
theorem kp_196_39 : x_pool k_P 196 39 = (1, 12, 9) := by decide +kernel
theorem kx_196_8 : x_code k_P 196 8 = some (.ifCond .le 5, 3) := by decide +kernel
theorem kx_196_13 : x_code k_P 196 13 = some (.aload_n 0, 1) := by decide +kernel
theorem kx_196_14 : x_code k_P 196 14 = some (.getfield 140, 3) := by decide +kernel
theorem kp_196_140 : x_pool k_P 196 140 = (1, 12, 42) := by decide +kernel
theorem kx_196_17 : x_code k_P 196 17 = some (.iconst 1, 1) := by decide +kernel
theorem kx_196_18 : x_code k_P 196 18 = some (.isub, 1) := by decide +kernel
theorem kx_196_19 : x_code k_P 196 19 = some (.istore_n 1, 1) := by decide +kernel
theorem km_196_1 : 1 < x_maxL k_P 196 := by decide +kernel
theorem kx_196_20 : x_code k_P 196 20 = some (.aload_n 0, 1) := by decide +kernel
theorem kx_196_21 : x_code k_P 196 21 = some (.getfield 124, 3) := by decide +kernel
theorem kp_196_124 : x_pool k_P 196 124 = (1, 12, 37) := by decide +kernel
theorem kx_196_24 : x_code k_P 196 24 = some (.iload_n 1, 1) := by decide +kernel
theorem kx_196_25 : x_code k_P 196 25 = some (.iaload, 1) := by decide +kernel
theorem kx_196_26 : x_code k_P 196 26 = some (.invokestatic 358, 3) := by decide +kernel
theorem kp_196_358 : x_pool k_P 196 358 = (6, 195, 1) := by decide +kernel
theorem kcl_195 : x_maxL k_P 195 ≤ 60 ∧ 1 ≤ x_maxL k_P 195 := by decide +kernel
theorem kx_196_29 : x_code k_P 196 29 = some (.ifCond .eq 16, 3) := by decide +kernel
theorem kx_196_45 : x_code k_P 196 45 = some (.iconst 0, 1) := by decide +kernel
theorem kx_196_32 : x_code k_P 196 32 = some (.aload_n 0, 1) := by decide +kernel
theorem kx_196_33 : x_code k_P 196 33 = some (.getfield 130, 3) := by decide +kernel
theorem kp_196_130 : x_pool k_P 196 130 = (1, 12, 39) := by decide +kernel
theorem kx_196_36 : x_code k_P 196 36 = some (.iload_n 1, 1) := by decide +kernel
theorem kx_196_37 : x_code k_P 196 37 = some (.baload, 1) := by decide +kernel
theorem kx_196_38 : x_code k_P 196 38 = some (.ifCond .eq 7, 3) := by decide +kernel
theorem kx_196_41 : x_code k_P 196 41 = some (.iconst 1, 1) := by decide +kernel
theorem kx_196_42 : x_code k_P 196 42 = some (.goto 4, 3) := by decide +kernel
theorem kx_196_46 : x_code k_P 196 46 = some (.istore_n 2, 1) := by decide +kernel
theorem km_196_2 : 2 < x_maxL k_P 196 := by decide +kernel
theorem kx_196_47 : x_code k_P 196 47 = some (.iload_n 2, 1) := by decide +kernel
theorem kx_196_48 : x_code k_P 196 48 = some (.ifCond .eq 62, 3) := by decide +kernel
theorem kx_196_110 : x_code k_P 196 110 = some (.aload_n 0, 1) := by decide +kernel
theorem kx_196_111 : x_code k_P 196 111 = some (.getfield 130, 3) := by decide +kernel
theorem kx_196_114 : x_code k_P 196 114 = some (.iload_n 1, 1) := by decide +kernel
theorem kx_196_115 : x_code k_P 196 115 = some (.iconst 0, 1) := by decide +kernel
theorem kx_196_116 : x_code k_P 196 116 = some (.bastore, 1) := by decide +kernel
theorem kx_196_117 : x_code k_P 196 117 = some (.iload_n 2, 1) := by decide +kernel
theorem kx_196_118 : x_code k_P 196 118 = some (.ifCond .eq 19, 3) := by decide +kernel
theorem kx_196_137 : x_code k_P 196 137 = some (.iload_n 2, 1) := by decide +kernel
theorem kx_196_138 : x_code k_P 196 138 = some (.ifCond .eq 33, 3) := by decide +kernel
theorem kx_196_171 : x_code k_P 196 171 = some (.aload_n 0, 1) := by decide +kernel
theorem kx_196_172 : x_code k_P 196 172 = some (.bipush 40, 2) := by decide +kernel
theorem kx_196_174 : x_code k_P 196 174 = some (.invokevirtual 283, 3) := by decide +kernel
theorem kp_196_283 : x_pool k_P 196 283 = (2, 181, 1) := by decide +kernel
theorem kx_196_177 : x_code k_P 196 177 = some (.ifCond .eq 10, 3) := by decide +kernel
theorem kx_196_187 : x_code k_P 196 187 = some (.aload_n 0, 1) := by decide +kernel
theorem kx_196_188 : x_code k_P 196 188 = some (.ldc2_w 333, 3) := by decide +kernel
theorem kp_196_333 : x_pool k_P 196 333 = (8, 0, 7170414) := by decide +kernel
theorem kx_196_191 : x_code k_P 196 191 = some (.invokevirtual 361, 3) := by decide +kernel
theorem kp_196_361 : x_pool k_P 196 361 = (2, 182, 1) := by decide +kernel
theorem kx_196_194 : x_code k_P 196 194 = some (.ifCond .ne 23, 3) := by decide +kernel
theorem kx_196_217 : x_code k_P 196 217 = some (.aload_n 0, 1) := by decide +kernel
theorem kx_196_218 : x_code k_P 196 218 = some (.ldc2_w 333, 3) := by decide +kernel
theorem kx_196_221 : x_code k_P 196 221 = some (.invokevirtual 361, 3) := by decide +kernel
theorem kx_196_224 : x_code k_P 196 224 = some (.ifCond .eq 8, 3) := by decide +kernel
theorem kx_196_232 : x_code k_P 196 232 = some (.aload_n 0, 1) := by decide +kernel
theorem kx_196_233 : x_code k_P 196 233 = some (.ldc2_w 335, 3) := by decide +kernel
theorem kp_196_335 : x_pool k_P 196 335 = (8, 0, 7168376) := by decide +kernel
theorem kx_196_236 : x_code k_P 196 236 = some (.invokevirtual 361, 3) := by decide +kernel
theorem kx_196_239 : x_code k_P 196 239 = some (.ifCond .eq 8, 3) := by decide +kernel
theorem kx_196_247 : x_code k_P 196 247 = some (.bipush 23, 2) := by decide +kernel
theorem kx_196_242 : x_code k_P 196 242 = some (.bipush 16, 2) := by decide +kernel
theorem kx_196_244 : x_code k_P 196 244 = some (.goto 5, 3) := by decide +kernel
theorem kx_196_227 : x_code k_P 196 227 = some (.bipush 15, 2) := by decide +kernel
theorem kx_196_229 : x_code k_P 196 229 = some (.goto 20, 3) := by decide +kernel
theorem kx_196_249 : x_code k_P 196 249 = some (.istore_n 3, 1) := by decide +kernel
theorem km_196_3 : 3 < x_maxL k_P 196 := by decide +kernel
theorem kx_196_250 : x_code k_P 196 250 = some (.aload_n 0, 1) := by decide +kernel
theorem kx_196_251 : x_code k_P 196 251 = some (.invokevirtual 286, 3) := by decide +kernel
theorem kp_196_286 : x_pool k_P 196 286 = (2, 180, 0) := by decide +kernel
theorem kx_196_254 : x_code k_P 196 254 = some (.aload_n 0, 1) := by decide +kernel
theorem kx_196_255 : x_code k_P 196 255 = some (.invokevirtual 280, 3) := by decide +kernel
theorem kx_196_258 : x_code k_P 196 258 = some (.aload_n 0, 1) := by decide +kernel
theorem kx_196_259 : x_code k_P 196 259 = some (.bipush 40, 2) := by decide +kernel
theorem kx_196_261 : x_code k_P 196 261 = some (.invokevirtual 283, 3) := by decide +kernel
theorem kx_196_264 : x_code k_P 196 264 = some (.ifCond .ne 12, 3) := by decide +kernel
theorem kx_196_276 : x_code k_P 196 276 = some (.aload_n 0, 1) := by decide +kernel
theorem kx_196_277 : x_code k_P 196 277 = some (.iload_n 3, 1) := by decide +kernel
theorem kx_196_278 : x_code k_P 196 278 = some (.bipush 23, 2) := by decide +kernel
theorem kx_196_280 : x_code k_P 196 280 = some (.if_icmp .ne 8, 3) := by decide +kernel
theorem kx_196_288 : x_code k_P 196 288 = some (.iconst 3, 1) := by decide +kernel
theorem kx_196_289 : x_code k_P 196 289 = some (.invokevirtual 367, 3) := by decide +kernel
theorem kp_196_367 : x_pool k_P 196 367 = (2, 194, 1) := by decide +kernel
theorem ki_194 : x_mci k_P 194 = 12 := by decide +kernel
theorem kcl_194 : x_maxL k_P 194 ≤ 60 ∧ 2 ≤ x_maxL k_P 194 := by decide +kernel
theorem kx_196_292 : x_code k_P 196 292 = some (.aload_n 0, 1) := by decide +kernel
theorem kx_196_293 : x_code k_P 196 293 = some (.getfield 39, 3) := by decide +kernel
theorem kx_196_296 : x_code k_P 196 296 = some (.ifCond .ne 15, 3) := by decide +kernel
theorem kx_196_311 : x_code k_P 196 311 = some (.iconst 0, 1) := by decide +kernel
theorem kx_196_312 : x_code k_P 196 312 = some (.ireturn, 1) := by decide +kernel
theorem kq_196 : x_retk k_P 196 = 2 := by decide +kernel
theorem kx_196_299 : x_code k_P 196 299 = some (.aload_n 0, 1) := by decide +kernel
theorem kx_196_300 : x_code k_P 196 300 = some (.getfield 134, 3) := by decide +kernel
theorem kp_196_134 : x_pool k_P 196 134 = (1, 12, 40) := by decide +kernel
theorem kf_12_40 : (x_cls k_P 12)[40]? = some 12 := by decide +kernel
theorem kx_196_303 : x_code k_P 196 303 = some (.aload_n 0, 1) := by decide +kernel
theorem kx_196_304 : x_code k_P 196 304 = some (.getfield 140, 3) := by decide +kernel
theorem kx_196_307 : x_code k_P 196 307 = some (.iconst 1, 1) := by decide +kernel
theorem kx_196_308 : x_code k_P 196 308 = some (.isub, 1) := by decide +kernel
theorem kx_196_309 : x_code k_P 196 309 = some (.iload_n 3, 1) := by decide +kernel
theorem kx_196_310 : x_code k_P 196 310 = some (.iastore, 1) := by decide +kernel
theorem kx_196_283 : x_code k_P 196 283 = some (.bipush 6, 2) := by decide +kernel
theorem kx_196_285 : x_code k_P 196 285 = some (.goto 4, 3) := by decide +kernel
theorem kx_196_267 : x_code k_P 196 267 = some (.aload_n 0, 1) := by decide +kernel
theorem kx_196_268 : x_code k_P 196 268 = some (.iconst 1, 1) := by decide +kernel
theorem kx_196_269 : x_code k_P 196 269 = some (.aload_n 0, 1) := by decide +kernel
theorem kx_196_270 : x_code k_P 196 270 = some (.getfield 23, 3) := by decide +kernel
theorem kp_196_23 : x_pool k_P 196 23 = (1, 12, 4) := by decide +kernel
theorem kx_196_273 : x_code k_P 196 273 = some (.invokevirtual 263, 3) := by decide +kernel
theorem kp_196_263 : x_pool k_P 196 263 = (2, 176, 2) := by decide +kernel
theorem kx_196_197 : x_code k_P 196 197 = some (.aload_n 0, 1) := by decide +kernel
theorem kx_196_198 : x_code k_P 196 198 = some (.ldc2_w 335, 3) := by decide +kernel
theorem kx_196_201 : x_code k_P 196 201 = some (.invokevirtual 361, 3) := by decide +kernel
theorem kx_196_204 : x_code k_P 196 204 = some (.ifCond .ne 13, 3) := by decide +kernel
theorem kx_196_207 : x_code k_P 196 207 = some (.aload_n 0, 1) := by decide +kernel
theorem kx_196_208 : x_code k_P 196 208 = some (.ldc2_w 323, 3) := by decide +kernel
theorem kp_196_323 : x_pool k_P 196 323 = (8, 0, 26982) := by decide +kernel
theorem kx_196_211 : x_code k_P 196 211 = some (.invokevirtual 361, 3) := by decide +kernel
theorem kx_196_214 : x_code k_P 196 214 = some (.ifCond .eq 99, 3) := by decide +kernel
theorem kx_196_313 : x_code k_P 196 313 = some (.aload_n 0, 1) := by decide +kernel
theorem kx_196_314 : x_code k_P 196 314 = some (.getfield 20, 3) := by decide +kernel
theorem kp_196_20 : x_pool k_P 196 20 = (1, 12, 3) := by decide +kernel
theorem kx_196_317 : x_code k_P 196 317 = some (.iconst 2, 1) := by decide +kernel
theorem kx_196_318 : x_code k_P 196 318 = some (.if_icmp .ne 7, 3) := by decide +kernel
theorem kx_196_325 : x_code k_P 196 325 = some (.aload_n 0, 1) := by decide +kernel
theorem kx_196_326 : x_code k_P 196 326 = some (.ldc2_w 297, 3) := by decide +kernel
theorem kp_196_297 : x_pool k_P 196 297 = (8, 0, 499850634611) := by decide +kernel
theorem kx_196_329 : x_code k_P 196 329 = some (.invokevirtual 361, 3) := by decide +kernel
theorem kx_196_332 : x_code k_P 196 332 = some (.ifCond .eq 7, 3) := by decide +kernel
theorem kx_196_339 : x_code k_P 196 339 = some (.aload_n 0, 1) := by decide +kernel
theorem kx_196_340 : x_code k_P 196 340 = some (.ldc2_w 317, 3) := by decide +kernel
theorem kp_196_317 : x_pool k_P 196 317 = (8, 0, 131277443786868) := by decide +kernel
theorem kx_196_343 : x_code k_P 196 343 = some (.invokevirtual 361, 3) := by decide +kernel
theorem kx_196_346 : x_code k_P 196 346 = some (.ifCond .eq 7, 3) := by decide +kernel
theorem kx_196_353 : x_code k_P 196 353 = some (.aload_n 0, 1) := by decide +kernel
theorem kx_196_354 : x_code k_P 196 354 = some (.ldc2_w 301, 3) := by decide +kernel
theorem kp_196_301 : x_pool k_P 196 301 = (8, 0, 126943973305959) := by decide +kernel
theorem kx_196_357 : x_code k_P 196 357 = some (.invokevirtual 361, 3) := by decide +kernel
theorem kx_196_360 : x_code k_P 196 360 = some (.ifCond .eq 7, 3) := by decide +kernel
theorem kx_196_367 : x_code k_P 196 367 = some (.aload_n 0, 1) := by decide +kernel
theorem kx_196_368 : x_code k_P 196 368 = some (.ldc2_w 305, 3) := by decide +kernel
theorem kp_196_305 : x_pool k_P 196 305 = (8, 0, 2003395685) := by decide +kernel
theorem kx_196_371 : x_code k_P 196 371 = some (.invokevirtual 361, 3) := by decide +kernel
theorem kx_196_374 : x_code k_P 196 374 = some (.ifCond .eq 7, 3) := by decide +kernel
theorem kx_196_381 : x_code k_P 196 381 = some (.aload_n 0, 1) := by decide +kernel
theorem kx_196_382 : x_code k_P 196 382 = some (.ldc2_w 319, 3) := by decide +kernel
theorem kp_196_319 : x_pool k_P 196 319 = (8, 0, 427021001579) := by decide +kernel
theorem kx_196_385 : x_code k_P 196 385 = some (.invokevirtual 361, 3) := by decide +kernel
theorem kx_196_388 : x_code k_P 196 388 = some (.ifCond .eq 7, 3) := by decide +kernel
theorem kx_196_395 : x_code k_P 196 395 = some (.aload_n 0, 1) := by decide +kernel
theorem kx_196_396 : x_code k_P 196 396 = some (.ldc2_w 321, 3) := by decide +kernel
theorem kp_196_321 : x_pool k_P 196 321 = (8, 0, 7305070) := by decide +kernel
theorem kx_196_399 : x_code k_P 196 399 = some (.invokevirtual 361, 3) := by decide +kernel
theorem kx_196_402 : x_code k_P 196 402 = some (.ifCond .eq 8, 3) := by decide +kernel
theorem kx_196_410 : x_code k_P 196 410 = some (.iconst (-1), 1) := by decide +kernel
theorem kx_196_405 : x_code k_P 196 405 = some (.bipush 6, 2) := by decide +kernel
theorem kx_196_407 : x_code k_P 196 407 = some (.goto 4, 3) := by decide +kernel
theorem kx_196_391 : x_code k_P 196 391 = some (.iconst 5, 1) := by decide +kernel
theorem kx_196_392 : x_code k_P 196 392 = some (.goto 19, 3) := by decide +kernel
theorem kx_196_377 : x_code k_P 196 377 = some (.iconst 4, 1) := by decide +kernel
theorem kx_196_378 : x_code k_P 196 378 = some (.goto 33, 3) := by decide +kernel
theorem kx_196_363 : x_code k_P 196 363 = some (.iconst 3, 1) := by decide +kernel
theorem kx_196_364 : x_code k_P 196 364 = some (.goto 47, 3) := by decide +kernel
theorem kx_196_349 : x_code k_P 196 349 = some (.iconst 2, 1) := by decide +kernel
theorem kx_196_350 : x_code k_P 196 350 = some (.goto 61, 3) := by decide +kernel
theorem kx_196_335 : x_code k_P 196 335 = some (.iconst 1, 1) := by decide +kernel
theorem kx_196_336 : x_code k_P 196 336 = some (.goto 75, 3) := by decide +kernel
theorem kx_196_321 : x_code k_P 196 321 = some (.iconst 0, 1) := by decide +kernel
theorem kx_196_322 : x_code k_P 196 322 = some (.goto 89, 3) := by decide +kernel
theorem kx_196_411 : x_code k_P 196 411 = some (.istore_n 3, 1) := by decide +kernel
theorem kx_196_412 : x_code k_P 196 412 = some (.iload_n 3, 1) := by decide +kernel
theorem kx_196_413 : x_code k_P 196 413 = some (.iconst (-1), 1) := by decide +kernel
theorem kx_196_414 : x_code k_P 196 414 = some (.if_icmp .ne 12, 3) := by decide +kernel
theorem kx_196_426 : x_code k_P 196 426 = some (.aload_n 0, 1) := by decide +kernel
theorem kx_196_427 : x_code k_P 196 427 = some (.getfield 39, 3) := by decide +kernel
theorem kx_196_430 : x_code k_P 196 430 = some (.ifCond .le 5, 3) := by decide +kernel
theorem kx_196_435 : x_code k_P 196 435 = some (.aload_n 0, 1) := by decide +kernel
theorem kx_196_436 : x_code k_P 196 436 = some (.iload_n 3, 1) := by decide +kernel
theorem kx_196_437 : x_code k_P 196 437 = some (.aload_n 0, 1) := by decide +kernel
theorem kx_196_438 : x_code k_P 196 438 = some (.getfield 29, 3) := by decide +kernel
theorem kp_196_29 : x_pool k_P 196 29 = (1, 12, 6) := by decide +kernel
theorem kx_196_441 : x_code k_P 196 441 = some (.invokevirtual 352, 3) := by decide +kernel
theorem kp_196_352 : x_pool k_P 196 352 = (2, 189, 2) := by decide +kernel
theorem kx_196_444 : x_code k_P 196 444 = some (.aload_n 0, 1) := by decide +kernel
theorem kx_196_445 : x_code k_P 196 445 = some (.invokevirtual 286, 3) := by decide +kernel
theorem kx_196_448 : x_code k_P 196 448 = some (.iconst 1, 1) := by decide +kernel
theorem kx_196_449 : x_code k_P 196 449 = some (.ireturn, 1) := by decide +kernel
theorem kx_196_417 : x_code k_P 196 417 = some (.aload_n 0, 1) := by decide +kernel
theorem kx_196_418 : x_code k_P 196 418 = some (.iconst 1, 1) := by decide +kernel
theorem kx_196_419 : x_code k_P 196 419 = some (.aload_n 0, 1) := by decide +kernel
theorem kx_196_420 : x_code k_P 196 420 = some (.getfield 23, 3) := by decide +kernel
theorem kx_196_423 : x_code k_P 196 423 = some (.invokevirtual 263, 3) := by decide +kernel
theorem kx_196_433 : x_code k_P 196 433 = some (.iconst 1, 1) := by decide +kernel
theorem kx_196_434 : x_code k_P 196 434 = some (.ireturn, 1) := by decide +kernel
theorem kx_196_180 : x_code k_P 196 180 = some (.aload_n 0, 1) := by decide +kernel
theorem kx_196_181 : x_code k_P 196 181 = some (.iconst 2, 1) := by decide +kernel
theorem kx_196_182 : x_code k_P 196 182 = some (.invokevirtual 367, 3) := by decide +kernel
theorem kx_196_185 : x_code k_P 196 185 = some (.iconst 0, 1) := by decide +kernel
theorem kx_196_186 : x_code k_P 196 186 = some (.ireturn, 1) := by decide +kernel
theorem kx_196_51 : x_code k_P 196 51 = some (.aload_n 0, 1) := by decide +kernel
theorem kx_196_52 : x_code k_P 196 52 = some (.ldc2_w 329, 3) := by decide +kernel
theorem kp_196_329 : x_pool k_P 196 329 = (8, 0, 7237492) := by decide +kernel
theorem kx_196_55 : x_code k_P 196 55 = some (.invokevirtual 361, 3) := by decide +kernel
theorem kx_196_58 : x_code k_P 196 58 = some (.ifCond .eq 52, 3) := by decide +kernel
theorem kx_196_121 : x_code k_P 196 121 = some (.aload_n 0, 1) := by decide +kernel
theorem kx_196_122 : x_code k_P 196 122 = some (.bipush 91, 2) := by decide +kernel
theorem kx_196_124 : x_code k_P 196 124 = some (.invokevirtual 283, 3) := by decide +kernel
theorem kx_196_127 : x_code k_P 196 127 = some (.ifCond .eq 10, 3) := by decide +kernel
theorem kx_196_141 : x_code k_P 196 141 = some (.aload_n 0, 1) := by decide +kernel
theorem kx_196_142 : x_code k_P 196 142 = some (.ldc2_w 331, 3) := by decide +kernel
theorem kp_196_331 : x_pool k_P 196 331 = (8, 0, 6384748) := by decide +kernel
theorem kx_196_145 : x_code k_P 196 145 = some (.invokevirtual 361, 3) := by decide +kernel
theorem kx_196_148 : x_code k_P 196 148 = some (.ifCond .eq 23, 3) := by decide +kernel
theorem kx_196_151 : x_code k_P 196 151 = some (.aload_n 0, 1) := by decide +kernel
theorem kx_196_152 : x_code k_P 196 152 = some (.bipush 9, 2) := by decide +kernel
theorem kx_196_154 : x_code k_P 196 154 = some (.iconst 0, 1) := by decide +kernel
theorem kx_196_155 : x_code k_P 196 155 = some (.invokevirtual 352, 3) := by decide +kernel
theorem kx_196_158 : x_code k_P 196 158 = some (.aload_n 0, 1) := by decide +kernel
theorem kx_196_159 : x_code k_P 196 159 = some (.getfield 127, 3) := by decide +kernel
theorem kp_196_127 : x_pool k_P 196 127 = (1, 12, 38) := by decide +kernel
theorem kx_196_162 : x_code k_P 196 162 = some (.iload_n 1, 1) := by decide +kernel
theorem kx_196_163 : x_code k_P 196 163 = some (.iconst 2, 1) := by decide +kernel
theorem kx_196_164 : x_code k_P 196 164 = some (.iastore, 1) := by decide +kernel
theorem kx_196_165 : x_code k_P 196 165 = some (.aload_n 0, 1) := by decide +kernel
theorem kx_196_166 : x_code k_P 196 166 = some (.invokevirtual 286, 3) := by decide +kernel
theorem kx_196_169 : x_code k_P 196 169 = some (.iconst 1, 1) := by decide +kernel
theorem kx_196_170 : x_code k_P 196 170 = some (.ireturn, 1) := by decide +kernel
theorem kx_196_130 : x_code k_P 196 130 = some (.aload_n 0, 1) := by decide +kernel
theorem kx_196_131 : x_code k_P 196 131 = some (.iconst 5, 1) := by decide +kernel
theorem kx_196_132 : x_code k_P 196 132 = some (.invokevirtual 367, 3) := by decide +kernel
theorem kx_196_135 : x_code k_P 196 135 = some (.iconst 0, 1) := by decide +kernel
theorem kx_196_136 : x_code k_P 196 136 = some (.ireturn, 1) := by decide +kernel
theorem kx_196_61 : x_code k_P 196 61 = some (.aload_n 0, 1) := by decide +kernel
theorem kx_196_62 : x_code k_P 196 62 = some (.getfield 143, 3) := by decide +kernel
theorem kp_196_143 : x_pool k_P 196 143 = (1, 12, 43) := by decide +kernel
theorem kx_196_65 : x_code k_P 196 65 = some (.bipush 7, 2) := by decide +kernel
theorem kx_196_67 : x_code k_P 196 67 = some (.if_icmp .ne 12, 3) := by decide +kernel
theorem kx_196_79 : x_code k_P 196 79 = some (.aload_n 0, 1) := by decide +kernel
theorem kx_196_80 : x_code k_P 196 80 = some (.getfield 39, 3) := by decide +kernel
theorem kx_196_83 : x_code k_P 196 83 = some (.ifCond .le 5, 3) := by decide +kernel
theorem kx_196_88 : x_code k_P 196 88 = some (.aload_n 0, 1) := by decide +kernel
theorem kx_196_89 : x_code k_P 196 89 = some (.dup, 1) := by decide +kernel
theorem kx_196_90 : x_code k_P 196 90 = some (.getfield 143, 3) := by decide +kernel
theorem kx_196_93 : x_code k_P 196 93 = some (.iconst 1, 1) := by decide +kernel
theorem kx_196_94 : x_code k_P 196 94 = some (.iadd, 1) := by decide +kernel
theorem kx_196_95 : x_code k_P 196 95 = some (.putfield 143, 3) := by decide +kernel
theorem kx_196_98 : x_code k_P 196 98 = some (.aload_n 0, 1) := by decide +kernel
theorem kx_196_99 : x_code k_P 196 99 = some (.bipush 22, 2) := by decide +kernel
theorem kx_196_101 : x_code k_P 196 101 = some (.invokevirtual 364, 3) := by decide +kernel
theorem kp_196_364 : x_pool k_P 196 364 = (2, 192, 1) := by decide +kernel
theorem ki_192 : x_mci k_P 192 = 12 := by decide +kernel
theorem kcl_192 : x_maxL k_P 192 ≤ 60 ∧ 2 ≤ x_maxL k_P 192 := by decide +kernel
theorem kx_196_104 : x_code k_P 196 104 = some (.aload_n 0, 1) := by decide +kernel
theorem kx_196_105 : x_code k_P 196 105 = some (.invokevirtual 286, 3) := by decide +kernel
theorem kx_196_108 : x_code k_P 196 108 = some (.iconst 0, 1) := by decide +kernel
theorem kx_196_109 : x_code k_P 196 109 = some (.ireturn, 1) := by decide +kernel
theorem kx_196_70 : x_code k_P 196 70 = some (.aload_n 0, 1) := by decide +kernel
theorem kx_196_71 : x_code k_P 196 71 = some (.iconst 5, 1) := by decide +kernel
theorem kx_196_72 : x_code k_P 196 72 = some (.aload_n 0, 1) := by decide +kernel
theorem kx_196_73 : x_code k_P 196 73 = some (.getfield 23, 3) := by decide +kernel
theorem kx_196_76 : x_code k_P 196 76 = some (.invokevirtual 263, 3) := by decide +kernel
theorem kx_196_86 : x_code k_P 196 86 = some (.iconst 1, 1) := by decide +kernel
theorem kx_196_87 : x_code k_P 196 87 = some (.ireturn, 1) := by decide +kernel
theorem kx_196_11 : x_code k_P 196 11 = some (.iconst 1, 1) := by decide +kernel
theorem kx_196_12 : x_code k_P 196 12 = some (.ireturn, 1) := by decide +kernel
def fS_196_m : List (Nat × Nat) := [(63, 10), (63, 13), (63, 3), (63, 35), (63, 4), (63, 42), (63, 43), (63, 45), (63, 5), (63, 6), (63, 7), (63, 8), (63, 9), (81, 99999), (82, 99999), (85, 99999), (86, 99999), (87, 99999), (88, 99999), (89, 99999), (90, 99999)]
def fS_196_j29 : List (Nat × Nat) := []
def fS_196_j224 : List (Nat × Nat) := []
def fS_196_j318 : List (Nat × Nat) := []
theorem m_196 {xs : Nat → Int} {Ln d : Nat} {T : List cK} {M : cM} (hT : TT T) (hI : Rng M) (hX : LXp M) {c : Nat → Int} {a q : Int} (hP : PI M c a 0 7 q 0) (p0 : q ≤ M 63 4) : cC k_P xs Ln (d + 3) 196 [rf 63] (T, M) (qW T M fS_196_m 0 (fun v M1 => 0 ≤ v ∧ v ≤ 1 ∧ (LXp M1 ∧ M 63 4 ≤ M1 63 4 ∧ M 63 9 ≤ M1 63 9 ∧ (OPd M M1 c a v)))) := by
  show cP k_P xs Ln (d + 3) 196 0 [(0, rf 63)] [] (T, M) _
  have hFm : Fr fS_196_m M M := Fr.refl
  have h639 := rg_63_9 hI
  have ⟨lx1, lx2⟩ := hX
  have hd := PI.deep hP
  have hs := PI.small hP (rg_63_43 hI).2 (by decide)
  have hs1 := hs.1
  have hs2 := hs.2.1
  have h4 := rg_63_4 hI
  have h43 := rg_63_43 hI
  have h5 := rg_63_5 hI
  have h45 := rg_63_45 hI
  refine s_aload_n kx_196_0 rfl ?_
  refine s_callV2 (k := 63) (s1 := 1) (s2 := 0) (as := []) (rest := []) kx_196_1 kp_196_280 (Or.inl rfl) rfl (tk_63 hT) ki_179 kcl_179 rfl rfl (by decide) (m_179 (d := d + 1) hT hI) (kV (fun M2 hI2 fr2 v1p => ?_))
  have hFm2 := hFm.call fr2 rfl
  have tr3 := (fr2 63 3 rfl)
  have tr4 := (fr2 63 4 rfl)
  have tr5 := (fr2 63 5 rfl)
  have tr6 := (fr2 63 35 rfl)
  have tr7 := (fr2 63 42 rfl)
  have tr8 := (fr2 63 43 rfl)
  have tr9 := (fr2 63 45 rfl)
  have tr10 := rg_63_9 hI2
  refine s_aload_n kx_196_4 rfl ?_
  refine r_getI (k := 63) (f := 9) kx_196_5 kp_196_39 (tk_63 hT) kf_12_9 (fun _ => rfl) (rg_63_9 hI2) (fun v11 v11e v11a v11b => ?_)
  refine s_if_le (t := 13) kx_196_8 (by decide) (fun hc12 => ?_) (fun hc12 => ?_)
  · refine s_aload_n kx_196_13 rfl ?_
    refine r_getI (k := 63) (f := 42) kx_196_14 kp_196_140 (tk_63 hT) kf_12_42 (fun _ => rfl) (rg_63_42 hI2) (fun v13 v13e v13a v13b => ?_)
    have v13z : M 63 42 = v13 := ((fr2 63 42 rfl)).symm.trans v13e
    refine s_iconst (v := 1) kx_196_17 (by decide) ?_
    refine r_sub kx_196_18 ⟨by omega, by omega⟩ ?_
    refine s_istore_n kx_196_19 km_196_1 rfl ?_
    refine s_aload_n kx_196_20 rfl ?_
    refine r_getR (k := 63) (f := 37) (k2 := 85) kx_196_21 kp_196_124 (tk_63 hT) kf_12_37 (by decide) (rq_63_37 hI2) ?_
    refine s_iload_n kx_196_24 rfl ?_
    refine r_ald (k := 85) kx_196_25 (tk_85 hT) ⟨by omega, by omega⟩ (rg_85 hI2) (fun v14 v14e v14a v14b => ?_)
    refine s_callS2 (s1 := 1) (s2 := 0) (as := [(0, v14)]) (rest := []) kx_196_26 kp_196_358 rfl kcl_195 rfl rfl (by decide) (m_195 (d := d + 2) (kind := v14) hT hI2) (kF (fun v15 v15p => ?_))
    have jn22 : ∀ (y21 : Int), (0 ≤ y21) → (y21 ≤ 1) → ((y21 = 0 ∨ M2 87 ((v13 - 1)).toNat = 1)) → cP k_P xs Ln (d + 3) 196 46 [(0, rf 63), (1, (0, (v13 - 1)))] [(0, y21)] (T, M2) (qW T M fS_196_m 0 (fun v M1 => 0 ≤ v ∧ v ≤ 1 ∧ (LXp M1 ∧ M 63 4 ≤ M1 63 4 ∧ M 63 9 ≤ M1 63 9 ∧ (OPd M M1 c a v)))) := by
      intro y21 a23 a24 a25
      refine s_istore_n kx_196_46 km_196_2 rfl ?_
      refine s_iload_n kx_196_47 rfl ?_
      refine s_if_eq (t := 110) kx_196_48 (by decide) (fun hc26 => ?_) (fun hc26 => ?_)
      · refine s_aload_n kx_196_110 rfl ?_
        refine r_getR (k := 63) (f := 39) (k2 := 87) kx_196_111 kp_196_130 (tk_63 hT) kf_12_39 (by decide) (rq_63_39 hI2) ?_
        refine s_iload_n kx_196_114 rfl ?_
        refine s_iconst (v := 0) kx_196_115 (by decide) ?_
        refine r_bast (k := 87) kx_196_116 (tk_87 hT) ⟨by omega, by omega⟩ (by omega) hI2 (ru_87 (by omega) (by omega)) (fun M27 hI27 u27 => ?_)
        have hFm27 := hFm2.up u27 rfl
        have tr28 := (u27.2 63 3 (by omega))
        have tr29 := (u27.2 63 4 (by omega))
        have tr30 := (u27.2 63 5 (by omega))
        have tr31 := (u27.2 63 9 (by omega))
        have tr32 := (u27.2 63 35 (by omega))
        have tr33 := (u27.2 63 42 (by omega))
        have tr34 := (u27.2 63 43 (by omega))
        have tr35 := (u27.2 63 45 (by omega))
        have hB36 : B0 M27 := B0.mk (by omega) u27
        have hP37 := (PI.begins0 (PI.fr hP fr2 rfl) (by omega) u27)
        refine s_iload_n kx_196_117 rfl ?_
        refine s_if_eq (t := 137) kx_196_118 (by decide) (fun hc38 => ?_) (fun hc38 => absurd hc38 (by omega))
        refine s_iload_n kx_196_137 rfl ?_
        refine s_if_eq (t := 171) kx_196_138 (by decide) (fun hc39 => ?_) (fun hc39 => absurd hc39 (by omega))
        refine s_aload_n kx_196_171 rfl ?_
        refine s_bipush (v := 40) kx_196_172 (by decide) ?_
        refine s_callV2 (k := 63) (s1 := 2) (s2 := 0) (as := [(0, 40)]) (rest := []) kx_196_174 kp_196_283 (Or.inl rfl) rfl (tk_63 hT) ki_181 kcl_181 rfl rfl (by decide) (m_181 (d := d + 2) (c := 40) hT hI27) (kF (fun v40 v40p => ?_))
        refine s_if_eq (t := 187) kx_196_177 (by decide) (fun hc41 => ?_) (fun hc41 => ?_)
        · replace v40p := v40p.resolve_left (by omega)
          refine s_aload_n kx_196_187 rfl ?_
          refine s_ldc2_w kx_196_188 kp_196_333 ?_
          refine s_callV2 (k := 63) (s1 := 3) (s2 := 0) (as := [(1, 7170414)]) (rest := []) kx_196_191 kp_196_361 (Or.inl rfl) rfl (tk_63 hT) ki_182 kcl_182 rfl rfl (by decide) (m_182 (d := d + 2) (w := 7170414) hT hI27) (kF (fun v42 v42p => ?_))
          refine s_if_ne (t := 217) kx_196_194 (by decide) (fun hc43 => ?_) (fun hc43 => ?_)
          · replace v42p := v42p.resolve_right (by omega)
            refine s_aload_n kx_196_217 rfl ?_
            refine s_ldc2_w kx_196_218 kp_196_333 ?_
            refine s_callV2 (k := 63) (s1 := 3) (s2 := 0) (as := [(1, 7170414)]) (rest := []) kx_196_221 kp_196_361 (Or.inl rfl) rfl (tk_63 hT) ki_182 kcl_182 rfl rfl (by decide) (m_182 (d := d + 2) (w := 7170414) hT hI27) (kF (fun v44 v44p => ?_))
            have jn51 : ∀ (y50 : Int), (15 ≤ y50) → (y50 ≤ 23) → ((y50 = 15 ∨ y50 = 16 ∨ y50 = 23)) → cP k_P xs Ln (d + 3) 196 249 [(0, rf 63)] [(0, y50)] (T, M27) (qW T M fS_196_m 0 (fun v M1 => 0 ≤ v ∧ v ≤ 1 ∧ (LXp M1 ∧ M 63 4 ≤ M1 63 4 ∧ M 63 9 ≤ M1 63 9 ∧ (OPd M M1 c a v)))) := by
              intro y50 a52 a53 a54
              refine s_istore_n kx_196_249 km_196_3 rfl ?_
              refine s_aload_n kx_196_250 rfl ?_
              refine s_callV2 (k := 63) (s1 := 1) (s2 := 0) (as := []) (rest := []) kx_196_251 kp_196_286 (Or.inl rfl) rfl (tk_63 hT) ki_180 kcl_180 rfl rfl (by decide) (m_180 (d := d + 1) hT hI27) (kV (fun M56 hI56 fr56 v55p => ?_))
              have hFm56 := hFm27.call fr56 rfl
              have tr57 := (fr56 63 9 rfl)
              have tr58 := (fr56 63 35 rfl)
              have tr59 := (fr56 63 42 rfl)
              have tr60 := (fr56 63 43 rfl)
              have tr61 := (fr56 63 45 rfl)
              have tr62 := rg_63_9 hI56
              refine s_aload_n kx_196_254 rfl ?_
              refine s_callV2 (k := 63) (s1 := 1) (s2 := 0) (as := []) (rest := []) kx_196_255 kp_196_280 (Or.inl rfl) rfl (tk_63 hT) ki_179 kcl_179 rfl rfl (by decide) (m_179 (d := d + 1) hT hI56) (kV (fun M64 hI64 fr64 v63p => ?_))
              have hFm64 := hFm56.call fr64 rfl
              have tr65 := (fr64 63 3 rfl)
              have tr66 := (fr64 63 4 rfl)
              have tr67 := (fr64 63 5 rfl)
              have tr68 := (fr64 63 35 rfl)
              have tr69 := (fr64 63 42 rfl)
              have tr70 := (fr64 63 43 rfl)
              have tr71 := (fr64 63 45 rfl)
              have tr72 := rg_63_9 hI64
              refine s_aload_n kx_196_258 rfl ?_
              refine s_bipush (v := 40) kx_196_259 (by decide) ?_
              refine s_callV2 (k := 63) (s1 := 2) (s2 := 0) (as := [(0, 40)]) (rest := []) kx_196_261 kp_196_283 (Or.inl rfl) rfl (tk_63 hT) ki_181 kcl_181 rfl rfl (by decide) (m_181 (d := d + 2) (c := 40) hT hI64) (kF (fun v73 v73p => ?_))
              refine s_if_ne (t := 276) kx_196_264 (by decide) (fun hc74 => ?_) (fun hc74 => ?_)
              · replace v73p := v73p.resolve_right (by omega)
                refine s_aload_n kx_196_276 rfl ?_
                refine s_iload_n kx_196_277 rfl ?_
                refine s_bipush (v := 23) kx_196_278 (by decide) ?_
                refine s_icmp_ne (t := 288) kx_196_280 (by decide) (fun hc75 => ?_) (fun hc75 => ?_)
                · refine s_iconst (v := 3) kx_196_288 (by decide) ?_
                  refine s_callV2 (k := 63) (s1 := 2) (s2 := 0) (as := [(0, 3)]) (rest := []) kx_196_289 kp_196_367 (Or.inl rfl) rfl (tk_63 hT) ki_194 kcl_194 rfl rfl (by decide) (m_194 (d := d) (kind := 3) hT hI64 (LXp.fr (show LXp M56 from v55p.2) fr64 rfl) (PI.fr (PI.fr hP37 fr56 rfl) fr64 rfl) (B0.fr (B0.fr hB36 fr56 rfl (fun _ => rfl)) fr64 rfl (fun _ => rfl)) (by omega)) (kV (fun M77 hI77 fr77 v76p => ?_))
                  have hFm77 := hFm64.call fr77 rfl
                  have tr78 := (fr77 63 35 rfl)
                  have tr79 := (fr77 63 45 rfl)
                  have tr80 := rg_63_9 hI77
                  refine s_aload_n kx_196_292 rfl ?_
                  refine r_getI (k := 63) (f := 9) kx_196_293 kp_196_39 (tk_63 hT) kf_12_9 (fun _ => rfl) (rg_63_9 hI77) (fun v81 v81e v81a v81b => ?_)
                  refine s_if_ne (t := 311) kx_196_296 (by decide) (fun hc82 => ?_) (fun hc82 => ?_)
                  · refine s_iconst (v := 0) kx_196_311 (by decide) ?_
                    have hk83 : M77 63 9 = v81 := v81e
                    exact s_iret kx_196_312 (Or.inr ⟨kq_196, by omega⟩) ⟨_, _, rfl, rfl, hI77, hFm77, ⟨by omega, by omega, v76p.1, (by omega), (by omega), (Or.inl (by omega))⟩⟩
                  · refine s_aload_n kx_196_299 rfl ?_
                    refine r_getR (k := 63) (f := 40) (k2 := 88) kx_196_300 kp_196_134 (tk_63 hT) kf_12_40 (by decide) (rq_63_40 hI77) ?_
                    refine s_aload_n kx_196_303 rfl ?_
                    refine r_getI (k := 63) (f := 42) kx_196_304 kp_196_140 (tk_63 hT) kf_12_42 (fun _ => rfl) (rg_63_42 hI77) (fun v84 v84e v84a v84b => ?_)
                    refine s_iconst (v := 1) kx_196_307 (by decide) ?_
                    refine r_sub kx_196_308 ⟨by omega, by omega⟩ ?_
                    refine s_iload_n kx_196_309 rfl ?_
                    refine r_ast (k := 88) kx_196_310 (tk_88 hT) ⟨by omega, by omega⟩ hI77 (ru_88 (by omega) (by omega)) (fun M85 hI85 u85 => ?_)
                    have hFm85 := hFm77.up u85 rfl
                    have tr86 := (u85.2 63 3 (by omega))
                    have tr87 := (u85.2 63 4 (by omega))
                    have tr88 := (u85.2 63 5 (by omega))
                    have tr89 := (u85.2 63 9 (by omega))
                    have tr90 := (u85.2 63 35 (by omega))
                    have tr91 := (u85.2 63 42 (by omega))
                    have tr92 := (u85.2 63 43 (by omega))
                    have tr93 := (u85.2 63 45 (by omega))
                    have hpp := (v76p.2.2.2.resolve_left (by omega)).2.2.2 _ _ (by rw [v84e]; exact u85) (by omega)
                    refine s_iconst (v := 0) kx_196_311 (by decide) ?_
                    have hk94 : M85 63 9 = v81 := ((u85.2 63 9 (by omega)).trans v81e)
                    exact s_iret kx_196_312 (Or.inr ⟨kq_196, by omega⟩) ⟨_, _, rfl, rfl, hI85, hFm85, ⟨by omega, by omega, (LXp.up v76p.1 u85 (Or.inl (by decide))), (by omega), (by omega), (Or.inr ⟨by omega, Or.inr ⟨rfl, PI.to7 hpp (by omega)⟩⟩)⟩⟩
                · refine s_bipush (v := 6) kx_196_283 (by decide) ?_
                  refine s_goto (t := 289) kx_196_285 (by decide) ?_
                  refine s_callV2 (k := 63) (s1 := 2) (s2 := 0) (as := [(0, 6)]) (rest := []) kx_196_289 kp_196_367 (Or.inl rfl) rfl (tk_63 hT) ki_194 kcl_194 rfl rfl (by decide) (m_194 (d := d) (kind := 6) hT hI64 (LXp.fr (show LXp M56 from v55p.2) fr64 rfl) (PI.fr (PI.fr hP37 fr56 rfl) fr64 rfl) (B0.fr (B0.fr hB36 fr56 rfl (fun _ => rfl)) fr64 rfl (fun _ => rfl)) (by omega)) (kV (fun M96 hI96 fr96 v95p => ?_))
                  have hFm96 := hFm64.call fr96 rfl
                  have tr97 := (fr96 63 35 rfl)
                  have tr98 := (fr96 63 45 rfl)
                  have tr99 := rg_63_9 hI96
                  refine s_aload_n kx_196_292 rfl ?_
                  refine r_getI (k := 63) (f := 9) kx_196_293 kp_196_39 (tk_63 hT) kf_12_9 (fun _ => rfl) (rg_63_9 hI96) (fun v100 v100e v100a v100b => ?_)
                  refine s_if_ne (t := 311) kx_196_296 (by decide) (fun hc101 => ?_) (fun hc101 => ?_)
                  · refine s_iconst (v := 0) kx_196_311 (by decide) ?_
                    have hk102 : M96 63 9 = v100 := v100e
                    exact s_iret kx_196_312 (Or.inr ⟨kq_196, by omega⟩) ⟨_, _, rfl, rfl, hI96, hFm96, ⟨by omega, by omega, v95p.1, (by omega), (by omega), (Or.inl (by omega))⟩⟩
                  · refine s_aload_n kx_196_299 rfl ?_
                    refine r_getR (k := 63) (f := 40) (k2 := 88) kx_196_300 kp_196_134 (tk_63 hT) kf_12_40 (by decide) (rq_63_40 hI96) ?_
                    refine s_aload_n kx_196_303 rfl ?_
                    refine r_getI (k := 63) (f := 42) kx_196_304 kp_196_140 (tk_63 hT) kf_12_42 (fun _ => rfl) (rg_63_42 hI96) (fun v103 v103e v103a v103b => ?_)
                    refine s_iconst (v := 1) kx_196_307 (by decide) ?_
                    refine r_sub kx_196_308 ⟨by omega, by omega⟩ ?_
                    refine s_iload_n kx_196_309 rfl ?_
                    refine r_ast (k := 88) kx_196_310 (tk_88 hT) ⟨by omega, by omega⟩ hI96 (ru_88 (by omega) (by omega)) (fun M104 hI104 u104 => ?_)
                    have hFm104 := hFm96.up u104 rfl
                    have tr105 := (u104.2 63 3 (by omega))
                    have tr106 := (u104.2 63 4 (by omega))
                    have tr107 := (u104.2 63 5 (by omega))
                    have tr108 := (u104.2 63 9 (by omega))
                    have tr109 := (u104.2 63 35 (by omega))
                    have tr110 := (u104.2 63 42 (by omega))
                    have tr111 := (u104.2 63 43 (by omega))
                    have tr112 := (u104.2 63 45 (by omega))
                    have hpp := (v95p.2.2.2.resolve_left (by omega)).2.2.2 _ _ (by rw [v103e]; exact u104) (by omega)
                    refine s_iconst (v := 0) kx_196_311 (by decide) ?_
                    have hk113 : M104 63 9 = v100 := ((u104.2 63 9 (by omega)).trans v100e)
                    exact s_iret kx_196_312 (Or.inr ⟨kq_196, by omega⟩) ⟨_, _, rfl, rfl, hI104, hFm104, ⟨by omega, by omega, (LXp.up v95p.1 u104 (Or.inl (by decide))), (by omega), (by omega), (Or.inr ⟨by omega, Or.inr ⟨rfl, PI.to7 hpp (by omega)⟩⟩)⟩⟩
              · replace v73p := v73p.resolve_left (by omega)
                refine s_aload_n kx_196_267 rfl ?_
                refine s_iconst (v := 1) kx_196_268 (by decide) ?_
                refine s_aload_n kx_196_269 rfl ?_
                refine r_getI (k := 63) (f := 4) kx_196_270 kp_196_23 (tk_63 hT) kf_12_4 (fun _ => rfl) (rg_63_4 hI64) (fun v114 v114e v114a v114b => ?_)
                refine s_callV2 (k := 63) (s1 := 3) (s2 := 0) (as := [(0, v114), (0, 1)]) (rest := []) kx_196_273 kp_196_263 (Or.inl rfl) rfl (tk_63 hT) ki_176 kcl_176 rfl rfl (by decide) (m_176 (d := d + 2) (kind := 1) (place := v114) hT hI64 (by omega)) (kV (fun M116 hI116 fr116 v115p => ?_))
                have hFm116 := hFm64.call fr116 rfl
                have tr117 := (fr116 63 3 rfl)
                have tr118 := (fr116 63 4 rfl)
                have tr119 := (fr116 63 5 rfl)
                have tr120 := (fr116 63 35 rfl)
                have tr121 := (fr116 63 42 rfl)
                have tr122 := (fr116 63 43 rfl)
                have tr123 := (fr116 63 45 rfl)
                have tr124 := rg_63_9 hI116
                refine s_aload_n kx_196_276 rfl ?_
                refine s_iload_n kx_196_277 rfl ?_
                refine s_bipush (v := 23) kx_196_278 (by decide) ?_
                refine s_icmp_ne (t := 288) kx_196_280 (by decide) (fun hc125 => ?_) (fun hc125 => ?_)
                · refine s_iconst (v := 3) kx_196_288 (by decide) ?_
                  refine s_callV2 (k := 63) (s1 := 2) (s2 := 0) (as := [(0, 3)]) (rest := []) kx_196_289 kp_196_367 (Or.inl rfl) rfl (tk_63 hT) ki_194 kcl_194 rfl rfl (by decide) (m_194 (d := d) (kind := 3) hT hI116 (LXp.fr (LXp.fr (show LXp M56 from v55p.2) fr64 rfl) fr116 rfl) (PI.fr (PI.fr (PI.fr hP37 fr56 rfl) fr64 rfl) fr116 rfl) (B0.fr (B0.fr (B0.fr hB36 fr56 rfl (fun _ => rfl)) fr64 rfl (fun _ => rfl)) fr116 rfl (fun _ => rfl)) (by omega)) (kV (fun M127 hI127 fr127 v126p => ?_))
                  have hFm127 := hFm116.call fr127 rfl
                  have tr128 := (fr127 63 35 rfl)
                  have tr129 := (fr127 63 45 rfl)
                  have tr130 := rg_63_9 hI127
                  refine s_aload_n kx_196_292 rfl ?_
                  refine r_getI (k := 63) (f := 9) kx_196_293 kp_196_39 (tk_63 hT) kf_12_9 (fun _ => rfl) (rg_63_9 hI127) (fun v131 v131e v131a v131b => ?_)
                  refine s_if_ne (t := 311) kx_196_296 (by decide) (fun hc132 => ?_) (fun hc132 => ?_)
                  · refine s_iconst (v := 0) kx_196_311 (by decide) ?_
                    have hk133 : M127 63 9 = v131 := v131e
                    exact s_iret kx_196_312 (Or.inr ⟨kq_196, by omega⟩) ⟨_, _, rfl, rfl, hI127, hFm127, ⟨by omega, by omega, v126p.1, (by omega), (by omega), (Or.inl (by omega))⟩⟩
                  · refine s_aload_n kx_196_299 rfl ?_
                    refine r_getR (k := 63) (f := 40) (k2 := 88) kx_196_300 kp_196_134 (tk_63 hT) kf_12_40 (by decide) (rq_63_40 hI127) ?_
                    refine s_aload_n kx_196_303 rfl ?_
                    refine r_getI (k := 63) (f := 42) kx_196_304 kp_196_140 (tk_63 hT) kf_12_42 (fun _ => rfl) (rg_63_42 hI127) (fun v134 v134e v134a v134b => ?_)
                    refine s_iconst (v := 1) kx_196_307 (by decide) ?_
                    refine r_sub kx_196_308 ⟨by omega, by omega⟩ ?_
                    refine s_iload_n kx_196_309 rfl ?_
                    refine r_ast (k := 88) kx_196_310 (tk_88 hT) ⟨by omega, by omega⟩ hI127 (ru_88 (by omega) (by omega)) (fun M135 hI135 u135 => ?_)
                    have hFm135 := hFm127.up u135 rfl
                    have tr136 := (u135.2 63 3 (by omega))
                    have tr137 := (u135.2 63 4 (by omega))
                    have tr138 := (u135.2 63 5 (by omega))
                    have tr139 := (u135.2 63 9 (by omega))
                    have tr140 := (u135.2 63 35 (by omega))
                    have tr141 := (u135.2 63 42 (by omega))
                    have tr142 := (u135.2 63 43 (by omega))
                    have tr143 := (u135.2 63 45 (by omega))
                    have hpp := (v126p.2.2.2.resolve_left (by omega)).2.2.2 _ _ (by rw [v134e]; exact u135) (by omega)
                    refine s_iconst (v := 0) kx_196_311 (by decide) ?_
                    have hk144 : M135 63 9 = v131 := ((u135.2 63 9 (by omega)).trans v131e)
                    exact s_iret kx_196_312 (Or.inr ⟨kq_196, by omega⟩) ⟨_, _, rfl, rfl, hI135, hFm135, ⟨by omega, by omega, (LXp.up v126p.1 u135 (Or.inl (by decide))), (by omega), (by omega), (Or.inr ⟨by omega, Or.inr ⟨rfl, PI.to7 hpp (by omega)⟩⟩)⟩⟩
                · refine s_bipush (v := 6) kx_196_283 (by decide) ?_
                  refine s_goto (t := 289) kx_196_285 (by decide) ?_
                  refine s_callV2 (k := 63) (s1 := 2) (s2 := 0) (as := [(0, 6)]) (rest := []) kx_196_289 kp_196_367 (Or.inl rfl) rfl (tk_63 hT) ki_194 kcl_194 rfl rfl (by decide) (m_194 (d := d) (kind := 6) hT hI116 (LXp.fr (LXp.fr (show LXp M56 from v55p.2) fr64 rfl) fr116 rfl) (PI.fr (PI.fr (PI.fr hP37 fr56 rfl) fr64 rfl) fr116 rfl) (B0.fr (B0.fr (B0.fr hB36 fr56 rfl (fun _ => rfl)) fr64 rfl (fun _ => rfl)) fr116 rfl (fun _ => rfl)) (by omega)) (kV (fun M146 hI146 fr146 v145p => ?_))
                  have hFm146 := hFm116.call fr146 rfl
                  have tr147 := (fr146 63 35 rfl)
                  have tr148 := (fr146 63 45 rfl)
                  have tr149 := rg_63_9 hI146
                  refine s_aload_n kx_196_292 rfl ?_
                  refine r_getI (k := 63) (f := 9) kx_196_293 kp_196_39 (tk_63 hT) kf_12_9 (fun _ => rfl) (rg_63_9 hI146) (fun v150 v150e v150a v150b => ?_)
                  refine s_if_ne (t := 311) kx_196_296 (by decide) (fun hc151 => ?_) (fun hc151 => ?_)
                  · refine s_iconst (v := 0) kx_196_311 (by decide) ?_
                    have hk152 : M146 63 9 = v150 := v150e
                    exact s_iret kx_196_312 (Or.inr ⟨kq_196, by omega⟩) ⟨_, _, rfl, rfl, hI146, hFm146, ⟨by omega, by omega, v145p.1, (by omega), (by omega), (Or.inl (by omega))⟩⟩
                  · refine s_aload_n kx_196_299 rfl ?_
                    refine r_getR (k := 63) (f := 40) (k2 := 88) kx_196_300 kp_196_134 (tk_63 hT) kf_12_40 (by decide) (rq_63_40 hI146) ?_
                    refine s_aload_n kx_196_303 rfl ?_
                    refine r_getI (k := 63) (f := 42) kx_196_304 kp_196_140 (tk_63 hT) kf_12_42 (fun _ => rfl) (rg_63_42 hI146) (fun v153 v153e v153a v153b => ?_)
                    refine s_iconst (v := 1) kx_196_307 (by decide) ?_
                    refine r_sub kx_196_308 ⟨by omega, by omega⟩ ?_
                    refine s_iload_n kx_196_309 rfl ?_
                    refine r_ast (k := 88) kx_196_310 (tk_88 hT) ⟨by omega, by omega⟩ hI146 (ru_88 (by omega) (by omega)) (fun M154 hI154 u154 => ?_)
                    have hFm154 := hFm146.up u154 rfl
                    have tr155 := (u154.2 63 3 (by omega))
                    have tr156 := (u154.2 63 4 (by omega))
                    have tr157 := (u154.2 63 5 (by omega))
                    have tr158 := (u154.2 63 9 (by omega))
                    have tr159 := (u154.2 63 35 (by omega))
                    have tr160 := (u154.2 63 42 (by omega))
                    have tr161 := (u154.2 63 43 (by omega))
                    have tr162 := (u154.2 63 45 (by omega))
                    have hpp := (v145p.2.2.2.resolve_left (by omega)).2.2.2 _ _ (by rw [v153e]; exact u154) (by omega)
                    refine s_iconst (v := 0) kx_196_311 (by decide) ?_
                    have hk163 : M154 63 9 = v150 := ((u154.2 63 9 (by omega)).trans v150e)
                    exact s_iret kx_196_312 (Or.inr ⟨kq_196, by omega⟩) ⟨_, _, rfl, rfl, hI154, hFm154, ⟨by omega, by omega, (LXp.up v145p.1 u154 (Or.inl (by decide))), (by omega), (by omega), (Or.inr ⟨by omega, Or.inr ⟨rfl, PI.to7 hpp (by omega)⟩⟩)⟩⟩
            refine s_if_eq (t := 232) kx_196_224 (by decide) (fun hc45 => ?_) (fun hc45 => ?_)
            · have hJ46 : Fr fS_196_j224 M27 M27 := Fr.refl
              replace v44p := v44p.resolve_left (by omega)
              refine s_aload_n kx_196_232 rfl ?_
              refine s_ldc2_w kx_196_233 kp_196_335 ?_
              refine s_callV2 (k := 63) (s1 := 3) (s2 := 0) (as := [(1, 7168376)]) (rest := []) kx_196_236 kp_196_361 (Or.inl rfl) rfl (tk_63 hT) ki_182 kcl_182 rfl rfl (by decide) (m_182 (d := d + 2) (w := 7168376) hT hI27) (kF (fun v47 v47p => ?_))
              refine s_if_eq (t := 247) kx_196_239 (by decide) (fun hc48 => ?_) (fun hc48 => ?_)
              · replace v47p := v47p.resolve_left (by omega)
                refine s_bipush (v := 23) kx_196_247 (by decide) ?_
                exact cP.wk (lS1 rfl lS0) (jn51 23 (by omega) (by omega) (by omega))
              · replace v47p := v47p.resolve_right (by omega)
                refine s_bipush (v := 16) kx_196_242 (by decide) ?_
                refine s_goto (t := 249) kx_196_244 (by decide) ?_
                exact cP.wk (lS1 rfl lS0) (jn51 16 (by omega) (by omega) (by omega))
            · have hJ49 : Fr fS_196_j224 M27 M27 := Fr.refl
              replace v44p := v44p.resolve_right (by omega)
              refine s_bipush (v := 15) kx_196_227 (by decide) ?_
              refine s_goto (t := 249) kx_196_229 (by decide) ?_
              exact cP.wk (lS1 rfl lS0) (jn51 15 (by omega) (by omega) (by omega))
          · replace v42p := v42p.resolve_left (by omega)
            refine s_aload_n kx_196_197 rfl ?_
            refine s_ldc2_w kx_196_198 kp_196_335 ?_
            refine s_callV2 (k := 63) (s1 := 3) (s2 := 0) (as := [(1, 7168376)]) (rest := []) kx_196_201 kp_196_361 (Or.inl rfl) rfl (tk_63 hT) ki_182 kcl_182 rfl rfl (by decide) (m_182 (d := d + 2) (w := 7168376) hT hI27) (kF (fun v164 v164p => ?_))
            refine s_if_ne (t := 217) kx_196_204 (by decide) (fun hc165 => ?_) (fun hc165 => ?_)
            · replace v164p := v164p.resolve_right (by omega)
              refine s_aload_n kx_196_217 rfl ?_
              refine s_ldc2_w kx_196_218 kp_196_333 ?_
              refine s_callV2 (k := 63) (s1 := 3) (s2 := 0) (as := [(1, 7170414)]) (rest := []) kx_196_221 kp_196_361 (Or.inl rfl) rfl (tk_63 hT) ki_182 kcl_182 rfl rfl (by decide) (m_182 (d := d + 2) (w := 7170414) hT hI27) (kF (fun v166 v166p => ?_))
              have jn173 : ∀ (y172 : Int), (15 ≤ y172) → (y172 ≤ 23) → ((y172 = 15 ∨ y172 = 16 ∨ y172 = 23)) → cP k_P xs Ln (d + 3) 196 249 [(0, rf 63)] [(0, y172)] (T, M27) (qW T M fS_196_m 0 (fun v M1 => 0 ≤ v ∧ v ≤ 1 ∧ (LXp M1 ∧ M 63 4 ≤ M1 63 4 ∧ M 63 9 ≤ M1 63 9 ∧ (OPd M M1 c a v)))) := by
                intro y172 a174 a175 a176
                refine s_istore_n kx_196_249 km_196_3 rfl ?_
                refine s_aload_n kx_196_250 rfl ?_
                refine s_callV2 (k := 63) (s1 := 1) (s2 := 0) (as := []) (rest := []) kx_196_251 kp_196_286 (Or.inl rfl) rfl (tk_63 hT) ki_180 kcl_180 rfl rfl (by decide) (m_180 (d := d + 1) hT hI27) (kV (fun M178 hI178 fr178 v177p => ?_))
                have hFm178 := hFm27.call fr178 rfl
                have tr179 := (fr178 63 9 rfl)
                have tr180 := (fr178 63 35 rfl)
                have tr181 := (fr178 63 42 rfl)
                have tr182 := (fr178 63 43 rfl)
                have tr183 := (fr178 63 45 rfl)
                have tr184 := rg_63_9 hI178
                refine s_aload_n kx_196_254 rfl ?_
                refine s_callV2 (k := 63) (s1 := 1) (s2 := 0) (as := []) (rest := []) kx_196_255 kp_196_280 (Or.inl rfl) rfl (tk_63 hT) ki_179 kcl_179 rfl rfl (by decide) (m_179 (d := d + 1) hT hI178) (kV (fun M186 hI186 fr186 v185p => ?_))
                have hFm186 := hFm178.call fr186 rfl
                have tr187 := (fr186 63 3 rfl)
                have tr188 := (fr186 63 4 rfl)
                have tr189 := (fr186 63 5 rfl)
                have tr190 := (fr186 63 35 rfl)
                have tr191 := (fr186 63 42 rfl)
                have tr192 := (fr186 63 43 rfl)
                have tr193 := (fr186 63 45 rfl)
                have tr194 := rg_63_9 hI186
                refine s_aload_n kx_196_258 rfl ?_
                refine s_bipush (v := 40) kx_196_259 (by decide) ?_
                refine s_callV2 (k := 63) (s1 := 2) (s2 := 0) (as := [(0, 40)]) (rest := []) kx_196_261 kp_196_283 (Or.inl rfl) rfl (tk_63 hT) ki_181 kcl_181 rfl rfl (by decide) (m_181 (d := d + 2) (c := 40) hT hI186) (kF (fun v195 v195p => ?_))
                refine s_if_ne (t := 276) kx_196_264 (by decide) (fun hc196 => ?_) (fun hc196 => ?_)
                · replace v195p := v195p.resolve_right (by omega)
                  refine s_aload_n kx_196_276 rfl ?_
                  refine s_iload_n kx_196_277 rfl ?_
                  refine s_bipush (v := 23) kx_196_278 (by decide) ?_
                  refine s_icmp_ne (t := 288) kx_196_280 (by decide) (fun hc197 => ?_) (fun hc197 => ?_)
                  · refine s_iconst (v := 3) kx_196_288 (by decide) ?_
                    refine s_callV2 (k := 63) (s1 := 2) (s2 := 0) (as := [(0, 3)]) (rest := []) kx_196_289 kp_196_367 (Or.inl rfl) rfl (tk_63 hT) ki_194 kcl_194 rfl rfl (by decide) (m_194 (d := d) (kind := 3) hT hI186 (LXp.fr (show LXp M178 from v177p.2) fr186 rfl) (PI.fr (PI.fr hP37 fr178 rfl) fr186 rfl) (B0.fr (B0.fr hB36 fr178 rfl (fun _ => rfl)) fr186 rfl (fun _ => rfl)) (by omega)) (kV (fun M199 hI199 fr199 v198p => ?_))
                    have hFm199 := hFm186.call fr199 rfl
                    have tr200 := (fr199 63 35 rfl)
                    have tr201 := (fr199 63 45 rfl)
                    have tr202 := rg_63_9 hI199
                    refine s_aload_n kx_196_292 rfl ?_
                    refine r_getI (k := 63) (f := 9) kx_196_293 kp_196_39 (tk_63 hT) kf_12_9 (fun _ => rfl) (rg_63_9 hI199) (fun v203 v203e v203a v203b => ?_)
                    refine s_if_ne (t := 311) kx_196_296 (by decide) (fun hc204 => ?_) (fun hc204 => ?_)
                    · refine s_iconst (v := 0) kx_196_311 (by decide) ?_
                      have hk205 : M199 63 9 = v203 := v203e
                      exact s_iret kx_196_312 (Or.inr ⟨kq_196, by omega⟩) ⟨_, _, rfl, rfl, hI199, hFm199, ⟨by omega, by omega, v198p.1, (by omega), (by omega), (Or.inl (by omega))⟩⟩
                    · refine s_aload_n kx_196_299 rfl ?_
                      refine r_getR (k := 63) (f := 40) (k2 := 88) kx_196_300 kp_196_134 (tk_63 hT) kf_12_40 (by decide) (rq_63_40 hI199) ?_
                      refine s_aload_n kx_196_303 rfl ?_
                      refine r_getI (k := 63) (f := 42) kx_196_304 kp_196_140 (tk_63 hT) kf_12_42 (fun _ => rfl) (rg_63_42 hI199) (fun v206 v206e v206a v206b => ?_)
                      refine s_iconst (v := 1) kx_196_307 (by decide) ?_
                      refine r_sub kx_196_308 ⟨by omega, by omega⟩ ?_
                      refine s_iload_n kx_196_309 rfl ?_
                      refine r_ast (k := 88) kx_196_310 (tk_88 hT) ⟨by omega, by omega⟩ hI199 (ru_88 (by omega) (by omega)) (fun M207 hI207 u207 => ?_)
                      have hFm207 := hFm199.up u207 rfl
                      have tr208 := (u207.2 63 3 (by omega))
                      have tr209 := (u207.2 63 4 (by omega))
                      have tr210 := (u207.2 63 5 (by omega))
                      have tr211 := (u207.2 63 9 (by omega))
                      have tr212 := (u207.2 63 35 (by omega))
                      have tr213 := (u207.2 63 42 (by omega))
                      have tr214 := (u207.2 63 43 (by omega))
                      have tr215 := (u207.2 63 45 (by omega))
                      have hpp := (v198p.2.2.2.resolve_left (by omega)).2.2.2 _ _ (by rw [v206e]; exact u207) (by omega)
                      refine s_iconst (v := 0) kx_196_311 (by decide) ?_
                      have hk216 : M207 63 9 = v203 := ((u207.2 63 9 (by omega)).trans v203e)
                      exact s_iret kx_196_312 (Or.inr ⟨kq_196, by omega⟩) ⟨_, _, rfl, rfl, hI207, hFm207, ⟨by omega, by omega, (LXp.up v198p.1 u207 (Or.inl (by decide))), (by omega), (by omega), (Or.inr ⟨by omega, Or.inr ⟨rfl, PI.to7 hpp (by omega)⟩⟩)⟩⟩
                  · refine s_bipush (v := 6) kx_196_283 (by decide) ?_
                    refine s_goto (t := 289) kx_196_285 (by decide) ?_
                    refine s_callV2 (k := 63) (s1 := 2) (s2 := 0) (as := [(0, 6)]) (rest := []) kx_196_289 kp_196_367 (Or.inl rfl) rfl (tk_63 hT) ki_194 kcl_194 rfl rfl (by decide) (m_194 (d := d) (kind := 6) hT hI186 (LXp.fr (show LXp M178 from v177p.2) fr186 rfl) (PI.fr (PI.fr hP37 fr178 rfl) fr186 rfl) (B0.fr (B0.fr hB36 fr178 rfl (fun _ => rfl)) fr186 rfl (fun _ => rfl)) (by omega)) (kV (fun M218 hI218 fr218 v217p => ?_))
                    have hFm218 := hFm186.call fr218 rfl
                    have tr219 := (fr218 63 35 rfl)
                    have tr220 := (fr218 63 45 rfl)
                    have tr221 := rg_63_9 hI218
                    refine s_aload_n kx_196_292 rfl ?_
                    refine r_getI (k := 63) (f := 9) kx_196_293 kp_196_39 (tk_63 hT) kf_12_9 (fun _ => rfl) (rg_63_9 hI218) (fun v222 v222e v222a v222b => ?_)
                    refine s_if_ne (t := 311) kx_196_296 (by decide) (fun hc223 => ?_) (fun hc223 => ?_)
                    · refine s_iconst (v := 0) kx_196_311 (by decide) ?_
                      have hk224 : M218 63 9 = v222 := v222e
                      exact s_iret kx_196_312 (Or.inr ⟨kq_196, by omega⟩) ⟨_, _, rfl, rfl, hI218, hFm218, ⟨by omega, by omega, v217p.1, (by omega), (by omega), (Or.inl (by omega))⟩⟩
                    · refine s_aload_n kx_196_299 rfl ?_
                      refine r_getR (k := 63) (f := 40) (k2 := 88) kx_196_300 kp_196_134 (tk_63 hT) kf_12_40 (by decide) (rq_63_40 hI218) ?_
                      refine s_aload_n kx_196_303 rfl ?_
                      refine r_getI (k := 63) (f := 42) kx_196_304 kp_196_140 (tk_63 hT) kf_12_42 (fun _ => rfl) (rg_63_42 hI218) (fun v225 v225e v225a v225b => ?_)
                      refine s_iconst (v := 1) kx_196_307 (by decide) ?_
                      refine r_sub kx_196_308 ⟨by omega, by omega⟩ ?_
                      refine s_iload_n kx_196_309 rfl ?_
                      refine r_ast (k := 88) kx_196_310 (tk_88 hT) ⟨by omega, by omega⟩ hI218 (ru_88 (by omega) (by omega)) (fun M226 hI226 u226 => ?_)
                      have hFm226 := hFm218.up u226 rfl
                      have tr227 := (u226.2 63 3 (by omega))
                      have tr228 := (u226.2 63 4 (by omega))
                      have tr229 := (u226.2 63 5 (by omega))
                      have tr230 := (u226.2 63 9 (by omega))
                      have tr231 := (u226.2 63 35 (by omega))
                      have tr232 := (u226.2 63 42 (by omega))
                      have tr233 := (u226.2 63 43 (by omega))
                      have tr234 := (u226.2 63 45 (by omega))
                      have hpp := (v217p.2.2.2.resolve_left (by omega)).2.2.2 _ _ (by rw [v225e]; exact u226) (by omega)
                      refine s_iconst (v := 0) kx_196_311 (by decide) ?_
                      have hk235 : M226 63 9 = v222 := ((u226.2 63 9 (by omega)).trans v222e)
                      exact s_iret kx_196_312 (Or.inr ⟨kq_196, by omega⟩) ⟨_, _, rfl, rfl, hI226, hFm226, ⟨by omega, by omega, (LXp.up v217p.1 u226 (Or.inl (by decide))), (by omega), (by omega), (Or.inr ⟨by omega, Or.inr ⟨rfl, PI.to7 hpp (by omega)⟩⟩)⟩⟩
                · replace v195p := v195p.resolve_left (by omega)
                  refine s_aload_n kx_196_267 rfl ?_
                  refine s_iconst (v := 1) kx_196_268 (by decide) ?_
                  refine s_aload_n kx_196_269 rfl ?_
                  refine r_getI (k := 63) (f := 4) kx_196_270 kp_196_23 (tk_63 hT) kf_12_4 (fun _ => rfl) (rg_63_4 hI186) (fun v236 v236e v236a v236b => ?_)
                  refine s_callV2 (k := 63) (s1 := 3) (s2 := 0) (as := [(0, v236), (0, 1)]) (rest := []) kx_196_273 kp_196_263 (Or.inl rfl) rfl (tk_63 hT) ki_176 kcl_176 rfl rfl (by decide) (m_176 (d := d + 2) (kind := 1) (place := v236) hT hI186 (by omega)) (kV (fun M238 hI238 fr238 v237p => ?_))
                  have hFm238 := hFm186.call fr238 rfl
                  have tr239 := (fr238 63 3 rfl)
                  have tr240 := (fr238 63 4 rfl)
                  have tr241 := (fr238 63 5 rfl)
                  have tr242 := (fr238 63 35 rfl)
                  have tr243 := (fr238 63 42 rfl)
                  have tr244 := (fr238 63 43 rfl)
                  have tr245 := (fr238 63 45 rfl)
                  have tr246 := rg_63_9 hI238
                  refine s_aload_n kx_196_276 rfl ?_
                  refine s_iload_n kx_196_277 rfl ?_
                  refine s_bipush (v := 23) kx_196_278 (by decide) ?_
                  refine s_icmp_ne (t := 288) kx_196_280 (by decide) (fun hc247 => ?_) (fun hc247 => ?_)
                  · refine s_iconst (v := 3) kx_196_288 (by decide) ?_
                    refine s_callV2 (k := 63) (s1 := 2) (s2 := 0) (as := [(0, 3)]) (rest := []) kx_196_289 kp_196_367 (Or.inl rfl) rfl (tk_63 hT) ki_194 kcl_194 rfl rfl (by decide) (m_194 (d := d) (kind := 3) hT hI238 (LXp.fr (LXp.fr (show LXp M178 from v177p.2) fr186 rfl) fr238 rfl) (PI.fr (PI.fr (PI.fr hP37 fr178 rfl) fr186 rfl) fr238 rfl) (B0.fr (B0.fr (B0.fr hB36 fr178 rfl (fun _ => rfl)) fr186 rfl (fun _ => rfl)) fr238 rfl (fun _ => rfl)) (by omega)) (kV (fun M249 hI249 fr249 v248p => ?_))
                    have hFm249 := hFm238.call fr249 rfl
                    have tr250 := (fr249 63 35 rfl)
                    have tr251 := (fr249 63 45 rfl)
                    have tr252 := rg_63_9 hI249
                    refine s_aload_n kx_196_292 rfl ?_
                    refine r_getI (k := 63) (f := 9) kx_196_293 kp_196_39 (tk_63 hT) kf_12_9 (fun _ => rfl) (rg_63_9 hI249) (fun v253 v253e v253a v253b => ?_)
                    refine s_if_ne (t := 311) kx_196_296 (by decide) (fun hc254 => ?_) (fun hc254 => ?_)
                    · refine s_iconst (v := 0) kx_196_311 (by decide) ?_
                      have hk255 : M249 63 9 = v253 := v253e
                      exact s_iret kx_196_312 (Or.inr ⟨kq_196, by omega⟩) ⟨_, _, rfl, rfl, hI249, hFm249, ⟨by omega, by omega, v248p.1, (by omega), (by omega), (Or.inl (by omega))⟩⟩
                    · refine s_aload_n kx_196_299 rfl ?_
                      refine r_getR (k := 63) (f := 40) (k2 := 88) kx_196_300 kp_196_134 (tk_63 hT) kf_12_40 (by decide) (rq_63_40 hI249) ?_
                      refine s_aload_n kx_196_303 rfl ?_
                      refine r_getI (k := 63) (f := 42) kx_196_304 kp_196_140 (tk_63 hT) kf_12_42 (fun _ => rfl) (rg_63_42 hI249) (fun v256 v256e v256a v256b => ?_)
                      refine s_iconst (v := 1) kx_196_307 (by decide) ?_
                      refine r_sub kx_196_308 ⟨by omega, by omega⟩ ?_
                      refine s_iload_n kx_196_309 rfl ?_
                      refine r_ast (k := 88) kx_196_310 (tk_88 hT) ⟨by omega, by omega⟩ hI249 (ru_88 (by omega) (by omega)) (fun M257 hI257 u257 => ?_)
                      have hFm257 := hFm249.up u257 rfl
                      have tr258 := (u257.2 63 3 (by omega))
                      have tr259 := (u257.2 63 4 (by omega))
                      have tr260 := (u257.2 63 5 (by omega))
                      have tr261 := (u257.2 63 9 (by omega))
                      have tr262 := (u257.2 63 35 (by omega))
                      have tr263 := (u257.2 63 42 (by omega))
                      have tr264 := (u257.2 63 43 (by omega))
                      have tr265 := (u257.2 63 45 (by omega))
                      have hpp := (v248p.2.2.2.resolve_left (by omega)).2.2.2 _ _ (by rw [v256e]; exact u257) (by omega)
                      refine s_iconst (v := 0) kx_196_311 (by decide) ?_
                      have hk266 : M257 63 9 = v253 := ((u257.2 63 9 (by omega)).trans v253e)
                      exact s_iret kx_196_312 (Or.inr ⟨kq_196, by omega⟩) ⟨_, _, rfl, rfl, hI257, hFm257, ⟨by omega, by omega, (LXp.up v248p.1 u257 (Or.inl (by decide))), (by omega), (by omega), (Or.inr ⟨by omega, Or.inr ⟨rfl, PI.to7 hpp (by omega)⟩⟩)⟩⟩
                  · refine s_bipush (v := 6) kx_196_283 (by decide) ?_
                    refine s_goto (t := 289) kx_196_285 (by decide) ?_
                    refine s_callV2 (k := 63) (s1 := 2) (s2 := 0) (as := [(0, 6)]) (rest := []) kx_196_289 kp_196_367 (Or.inl rfl) rfl (tk_63 hT) ki_194 kcl_194 rfl rfl (by decide) (m_194 (d := d) (kind := 6) hT hI238 (LXp.fr (LXp.fr (show LXp M178 from v177p.2) fr186 rfl) fr238 rfl) (PI.fr (PI.fr (PI.fr hP37 fr178 rfl) fr186 rfl) fr238 rfl) (B0.fr (B0.fr (B0.fr hB36 fr178 rfl (fun _ => rfl)) fr186 rfl (fun _ => rfl)) fr238 rfl (fun _ => rfl)) (by omega)) (kV (fun M268 hI268 fr268 v267p => ?_))
                    have hFm268 := hFm238.call fr268 rfl
                    have tr269 := (fr268 63 35 rfl)
                    have tr270 := (fr268 63 45 rfl)
                    have tr271 := rg_63_9 hI268
                    refine s_aload_n kx_196_292 rfl ?_
                    refine r_getI (k := 63) (f := 9) kx_196_293 kp_196_39 (tk_63 hT) kf_12_9 (fun _ => rfl) (rg_63_9 hI268) (fun v272 v272e v272a v272b => ?_)
                    refine s_if_ne (t := 311) kx_196_296 (by decide) (fun hc273 => ?_) (fun hc273 => ?_)
                    · refine s_iconst (v := 0) kx_196_311 (by decide) ?_
                      have hk274 : M268 63 9 = v272 := v272e
                      exact s_iret kx_196_312 (Or.inr ⟨kq_196, by omega⟩) ⟨_, _, rfl, rfl, hI268, hFm268, ⟨by omega, by omega, v267p.1, (by omega), (by omega), (Or.inl (by omega))⟩⟩
                    · refine s_aload_n kx_196_299 rfl ?_
                      refine r_getR (k := 63) (f := 40) (k2 := 88) kx_196_300 kp_196_134 (tk_63 hT) kf_12_40 (by decide) (rq_63_40 hI268) ?_
                      refine s_aload_n kx_196_303 rfl ?_
                      refine r_getI (k := 63) (f := 42) kx_196_304 kp_196_140 (tk_63 hT) kf_12_42 (fun _ => rfl) (rg_63_42 hI268) (fun v275 v275e v275a v275b => ?_)
                      refine s_iconst (v := 1) kx_196_307 (by decide) ?_
                      refine r_sub kx_196_308 ⟨by omega, by omega⟩ ?_
                      refine s_iload_n kx_196_309 rfl ?_
                      refine r_ast (k := 88) kx_196_310 (tk_88 hT) ⟨by omega, by omega⟩ hI268 (ru_88 (by omega) (by omega)) (fun M276 hI276 u276 => ?_)
                      have hFm276 := hFm268.up u276 rfl
                      have tr277 := (u276.2 63 3 (by omega))
                      have tr278 := (u276.2 63 4 (by omega))
                      have tr279 := (u276.2 63 5 (by omega))
                      have tr280 := (u276.2 63 9 (by omega))
                      have tr281 := (u276.2 63 35 (by omega))
                      have tr282 := (u276.2 63 42 (by omega))
                      have tr283 := (u276.2 63 43 (by omega))
                      have tr284 := (u276.2 63 45 (by omega))
                      have hpp := (v267p.2.2.2.resolve_left (by omega)).2.2.2 _ _ (by rw [v275e]; exact u276) (by omega)
                      refine s_iconst (v := 0) kx_196_311 (by decide) ?_
                      have hk285 : M276 63 9 = v272 := ((u276.2 63 9 (by omega)).trans v272e)
                      exact s_iret kx_196_312 (Or.inr ⟨kq_196, by omega⟩) ⟨_, _, rfl, rfl, hI276, hFm276, ⟨by omega, by omega, (LXp.up v267p.1 u276 (Or.inl (by decide))), (by omega), (by omega), (Or.inr ⟨by omega, Or.inr ⟨rfl, PI.to7 hpp (by omega)⟩⟩)⟩⟩
              refine s_if_eq (t := 232) kx_196_224 (by decide) (fun hc167 => ?_) (fun hc167 => ?_)
              · have hJ168 : Fr fS_196_j224 M27 M27 := Fr.refl
                replace v166p := v166p.resolve_left (by omega)
                refine s_aload_n kx_196_232 rfl ?_
                refine s_ldc2_w kx_196_233 kp_196_335 ?_
                refine s_callV2 (k := 63) (s1 := 3) (s2 := 0) (as := [(1, 7168376)]) (rest := []) kx_196_236 kp_196_361 (Or.inl rfl) rfl (tk_63 hT) ki_182 kcl_182 rfl rfl (by decide) (m_182 (d := d + 2) (w := 7168376) hT hI27) (kF (fun v169 v169p => ?_))
                refine s_if_eq (t := 247) kx_196_239 (by decide) (fun hc170 => ?_) (fun hc170 => ?_)
                · replace v169p := v169p.resolve_left (by omega)
                  refine s_bipush (v := 23) kx_196_247 (by decide) ?_
                  exact cP.wk (lS1 rfl lS0) (jn173 23 (by omega) (by omega) (by omega))
                · replace v169p := v169p.resolve_right (by omega)
                  refine s_bipush (v := 16) kx_196_242 (by decide) ?_
                  refine s_goto (t := 249) kx_196_244 (by decide) ?_
                  exact cP.wk (lS1 rfl lS0) (jn173 16 (by omega) (by omega) (by omega))
              · have hJ171 : Fr fS_196_j224 M27 M27 := Fr.refl
                replace v166p := v166p.resolve_right (by omega)
                refine s_bipush (v := 15) kx_196_227 (by decide) ?_
                refine s_goto (t := 249) kx_196_229 (by decide) ?_
                exact cP.wk (lS1 rfl lS0) (jn173 15 (by omega) (by omega) (by omega))
            · replace v164p := v164p.resolve_left (by omega)
              refine s_aload_n kx_196_207 rfl ?_
              refine s_ldc2_w kx_196_208 kp_196_323 ?_
              refine s_callV2 (k := 63) (s1 := 3) (s2 := 0) (as := [(1, 26982)]) (rest := []) kx_196_211 kp_196_361 (Or.inl rfl) rfl (tk_63 hT) ki_182 kcl_182 rfl rfl (by decide) (m_182 (d := d + 2) (w := 26982) hT hI27) (kF (fun v286 v286p => ?_))
              refine s_if_eq (t := 313) kx_196_214 (by decide) (fun hc287 => ?_) (fun hc287 => ?_)
              · replace v286p := v286p.resolve_left (by omega)
                refine s_aload_n kx_196_313 rfl ?_
                refine r_getI (k := 63) (f := 3) kx_196_314 kp_196_20 (tk_63 hT) kf_12_3 (fun _ => rfl) (rg_63_3 hI27) (fun v288 v288e v288a v288b => ?_)
                have v288z : M 63 3 = v288 := (((u27.2 63 3 (by omega)).trans (fr2 63 3 rfl))).symm.trans v288e
                refine s_iconst (v := 2) kx_196_317 (by decide) ?_
                have jn305 : ∀ (y304 : Int), ((-1) ≤ y304) → (y304 ≤ 6) → ((y304 = -1 ∨ M27 63 3 ≠ 0)) → cP k_P xs Ln (d + 3) 196 411 [(0, rf 63)] [(0, y304)] (T, M27) (qW T M fS_196_m 0 (fun v M1 => 0 ≤ v ∧ v ≤ 1 ∧ (LXp M1 ∧ M 63 4 ≤ M1 63 4 ∧ M 63 9 ≤ M1 63 9 ∧ (OPd M M1 c a v)))) := by
                  intro y304 a306 a307 a308
                  refine s_istore_n kx_196_411 km_196_3 rfl ?_
                  refine s_iload_n kx_196_412 rfl ?_
                  refine s_iconst (v := (-1)) kx_196_413 (by decide) ?_
                  refine s_icmp_ne (t := 426) kx_196_414 (by decide) (fun hc309 => ?_) (fun hc309 => ?_)
                  · refine s_aload_n kx_196_426 rfl ?_
                    refine r_getK (k := 63) (f := 9) kx_196_427 kp_196_39 (tk_63 hT) kf_12_9 (fun _ => rfl) ((u27.2 63 9 (by omega)).trans v11e) ?_
                    refine s_if_le (t := 435) kx_196_430 (by decide) (fun hc310 => ?_) (fun hc310 => absurd hc310 (by omega))
                    refine s_aload_n kx_196_435 rfl ?_
                    refine s_iload_n kx_196_436 rfl ?_
                    refine s_aload_n kx_196_437 rfl ?_
                    refine r_getU (k := 63) (f := 6) kx_196_438 kp_196_29 (tk_63 hT) kf_12_6 (fun _ => rfl) (fun v311 v311e => ?_)
                    have v311z : M 63 6 = v311 := (((u27.2 63 6 (by omega)).trans (fr2 63 6 rfl))).symm.trans v311e
                    refine s_callV2 (k := 63) (s1 := 3) (s2 := 0) (as := [(0, v311), (0, y304)]) (rest := []) kx_196_441 kp_196_352 (Or.inl rfl) rfl (tk_63 hT) ki_189 kcl_189 rfl rfl (by decide) (m_189 (d := d + 2) (sort := y304) (v_ := v311) hT hI27 (by omega) (by omega)) (kV (fun M313 hI313 fr313 v312p => ?_))
                    have hFm313 := hFm27.call fr313 rfl
                    have tr314 := (fr313 63 3 rfl)
                    have tr315 := (fr313 63 4 rfl)
                    have tr316 := (fr313 63 5 rfl)
                    have tr317 := (fr313 63 9 rfl)
                    have tr318 := (fr313 63 42 rfl)
                    have tr319 := (fr313 63 43 rfl)
                    have tr320 := (fr313 63 45 rfl)
                    have tr321 := rg_63_9 hI313
                    have hP322 := PI.codeV hP37 (by omega) (by omega) (by decide) (by decide) fr313 v312p.1 v312p.2.1 v312p.2.2
                    refine s_aload_n kx_196_444 rfl ?_
                    refine s_callV2 (k := 63) (s1 := 1) (s2 := 0) (as := []) (rest := []) kx_196_445 kp_196_286 (Or.inl rfl) rfl (tk_63 hT) ki_180 kcl_180 rfl rfl (by decide) (m_180 (d := d + 1) hT hI313) (kV (fun M324 hI324 fr324 v323p => ?_))
                    have hFm324 := hFm313.call fr324 rfl
                    have tr325 := (fr324 63 9 rfl)
                    have tr326 := (fr324 63 35 rfl)
                    have tr327 := (fr324 63 42 rfl)
                    have tr328 := (fr324 63 43 rfl)
                    have tr329 := (fr324 63 45 rfl)
                    have tr330 := rg_63_9 hI324
                    refine s_iconst (v := 1) kx_196_448 (by decide) ?_
                    have hk331 : M324 63 9 = v11 := ((fr324 63 9 rfl).trans ((fr313 63 9 rfl).trans ((u27.2 63 9 (by omega)).trans v11e)))
                    exact s_iret kx_196_449 (Or.inr ⟨kq_196, by omega⟩) ⟨_, _, rfl, rfl, hI324, hFm324, ⟨by omega, by omega, (show LXp M324 from v323p.2), (by omega), (by omega), (Or.inr ⟨by omega, Or.inl ⟨rfl, (B0.fr (B0.fr hB36 fr313 rfl (fun _ => rfl)) fr324 rfl (fun _ => rfl)), PI.to7 (PI.fr hP322 fr324 rfl) (by omega)⟩⟩)⟩⟩
                  · refine s_aload_n kx_196_417 rfl ?_
                    refine s_iconst (v := 1) kx_196_418 (by decide) ?_
                    refine s_aload_n kx_196_419 rfl ?_
                    refine r_getI (k := 63) (f := 4) kx_196_420 kp_196_23 (tk_63 hT) kf_12_4 (fun _ => rfl) (rg_63_4 hI27) (fun v332 v332e v332a v332b => ?_)
                    have v332z : M 63 4 = v332 := (((u27.2 63 4 (by omega)).trans (fr2 63 4 rfl))).symm.trans v332e
                    refine s_callV2 (k := 63) (s1 := 3) (s2 := 0) (as := [(0, v332), (0, 1)]) (rest := []) kx_196_423 kp_196_263 (Or.inl rfl) rfl (tk_63 hT) ki_176 kcl_176 rfl rfl (by decide) (m_176 (d := d + 2) (kind := 1) (place := v332) hT hI27 (by omega)) (kV (fun M334 hI334 fr334 v333p => ?_))
                    have hFm334 := hFm27.call fr334 rfl
                    have tr335 := (fr334 63 3 rfl)
                    have tr336 := (fr334 63 4 rfl)
                    have tr337 := (fr334 63 5 rfl)
                    have tr338 := (fr334 63 35 rfl)
                    have tr339 := (fr334 63 42 rfl)
                    have tr340 := (fr334 63 43 rfl)
                    have tr341 := (fr334 63 45 rfl)
                    have tr342 := rg_63_9 hI334
                    refine s_aload_n kx_196_426 rfl ?_
                    refine r_getI (k := 63) (f := 9) kx_196_427 kp_196_39 (tk_63 hT) kf_12_9 (fun _ => rfl) (rg_63_9 hI334) (fun v343 v343e v343a v343b => ?_)
                    refine s_if_le (t := 435) kx_196_430 (by decide) (fun hc344 => ?_) (fun hc344 => ?_)
                    · refine s_aload_n kx_196_435 rfl ?_
                      refine s_iload_n kx_196_436 rfl ?_
                      refine s_aload_n kx_196_437 rfl ?_
                      refine r_getU (k := 63) (f := 6) kx_196_438 kp_196_29 (tk_63 hT) kf_12_6 (fun _ => rfl) (fun v345 v345e => ?_)
                      have v345z : M 63 6 = v345 := (((fr334 63 6 rfl).trans ((u27.2 63 6 (by omega)).trans (fr2 63 6 rfl)))).symm.trans v345e
                      refine s_callV2 (k := 63) (s1 := 3) (s2 := 0) (as := [(0, v345), (0, y304)]) (rest := []) kx_196_441 kp_196_352 (Or.inl rfl) rfl (tk_63 hT) ki_189 kcl_189 rfl rfl (by decide) (m_189 (d := d + 2) (sort := y304) (v_ := v345) hT hI334 (by omega) (by omega)) (kV (fun M347 hI347 fr347 v346p => ?_))
                      have hFm347 := hFm334.call fr347 rfl
                      have tr348 := (fr347 63 3 rfl)
                      have tr349 := (fr347 63 4 rfl)
                      have tr350 := (fr347 63 5 rfl)
                      have tr351 := (fr347 63 9 rfl)
                      have tr352 := (fr347 63 42 rfl)
                      have tr353 := (fr347 63 43 rfl)
                      have tr354 := (fr347 63 45 rfl)
                      have tr355 := rg_63_9 hI347
                      have hP356 := PI.codeV (PI.fr hP37 fr334 rfl) (by omega) (by omega) (by decide) (by decide) fr347 v346p.1 v346p.2.1 v346p.2.2
                      refine s_aload_n kx_196_444 rfl ?_
                      refine s_callV2 (k := 63) (s1 := 1) (s2 := 0) (as := []) (rest := []) kx_196_445 kp_196_286 (Or.inl rfl) rfl (tk_63 hT) ki_180 kcl_180 rfl rfl (by decide) (m_180 (d := d + 1) hT hI347) (kV (fun M358 hI358 fr358 v357p => ?_))
                      have hFm358 := hFm347.call fr358 rfl
                      have tr359 := (fr358 63 9 rfl)
                      have tr360 := (fr358 63 35 rfl)
                      have tr361 := (fr358 63 42 rfl)
                      have tr362 := (fr358 63 43 rfl)
                      have tr363 := (fr358 63 45 rfl)
                      have tr364 := rg_63_9 hI358
                      refine s_iconst (v := 1) kx_196_448 (by decide) ?_
                      have hk365 : M358 63 9 = v343 := ((fr358 63 9 rfl).trans ((fr347 63 9 rfl).trans v343e))
                      exact s_iret kx_196_449 (Or.inr ⟨kq_196, by omega⟩) ⟨_, _, rfl, rfl, hI358, hFm358, ⟨by omega, by omega, (show LXp M358 from v357p.2), (by omega), (by omega), (Or.inr ⟨by omega, Or.inl ⟨rfl, (B0.fr (B0.fr (B0.fr hB36 fr334 rfl (fun _ => rfl)) fr347 rfl (fun _ => rfl)) fr358 rfl (fun _ => rfl)), PI.to7 (PI.fr hP356 fr358 rfl) (by omega)⟩⟩)⟩⟩
                    · refine s_iconst (v := 1) kx_196_433 (by decide) ?_
                      have hk366 : M334 63 3 = v288 := ((fr334 63 3 rfl).trans v288e)
                      have hk367 : M334 63 4 = v332 := ((fr334 63 4 rfl).trans v332e)
                      have hk368 : M334 63 9 = v343 := v343e
                      exact s_iret kx_196_434 (Or.inr ⟨kq_196, by omega⟩) ⟨_, _, rfl, rfl, hI334, hFm334, ⟨by omega, by omega, (LXp.fr (LXp.up (LXp.fr hX fr2 rfl) u27 (Or.inl (by decide))) fr334 rfl), (by omega), (by omega), (Or.inl (by omega))⟩⟩
                refine s_icmp_ne (t := 325) kx_196_318 (by decide) (fun hc289 => ?_) (fun hc289 => ?_)
                · have hJ290 : Fr fS_196_j318 M27 M27 := Fr.refl
                  refine s_aload_n kx_196_325 rfl ?_
                  refine s_ldc2_w kx_196_326 kp_196_297 ?_
                  refine s_callV2 (k := 63) (s1 := 3) (s2 := 0) (as := [(1, 499850634611)]) (rest := []) kx_196_329 kp_196_361 (Or.inl rfl) rfl (tk_63 hT) ki_182 kcl_182 rfl rfl (by decide) (m_182 (d := d + 2) (w := 499850634611) hT hI27) (kF (fun v291 v291p => ?_))
                  refine s_if_eq (t := 339) kx_196_332 (by decide) (fun hc292 => ?_) (fun hc292 => ?_)
                  · replace v291p := v291p.resolve_left (by omega)
                    refine s_aload_n kx_196_339 rfl ?_
                    refine s_ldc2_w kx_196_340 kp_196_317 ?_
                    refine s_callV2 (k := 63) (s1 := 3) (s2 := 0) (as := [(1, 131277443786868)]) (rest := []) kx_196_343 kp_196_361 (Or.inl rfl) rfl (tk_63 hT) ki_182 kcl_182 rfl rfl (by decide) (m_182 (d := d + 2) (w := 131277443786868) hT hI27) (kF (fun v293 v293p => ?_))
                    refine s_if_eq (t := 353) kx_196_346 (by decide) (fun hc294 => ?_) (fun hc294 => ?_)
                    · replace v293p := v293p.resolve_left (by omega)
                      refine s_aload_n kx_196_353 rfl ?_
                      refine s_ldc2_w kx_196_354 kp_196_301 ?_
                      refine s_callV2 (k := 63) (s1 := 3) (s2 := 0) (as := [(1, 126943973305959)]) (rest := []) kx_196_357 kp_196_361 (Or.inl rfl) rfl (tk_63 hT) ki_182 kcl_182 rfl rfl (by decide) (m_182 (d := d + 2) (w := 126943973305959) hT hI27) (kF (fun v295 v295p => ?_))
                      refine s_if_eq (t := 367) kx_196_360 (by decide) (fun hc296 => ?_) (fun hc296 => ?_)
                      · replace v295p := v295p.resolve_left (by omega)
                        refine s_aload_n kx_196_367 rfl ?_
                        refine s_ldc2_w kx_196_368 kp_196_305 ?_
                        refine s_callV2 (k := 63) (s1 := 3) (s2 := 0) (as := [(1, 2003395685)]) (rest := []) kx_196_371 kp_196_361 (Or.inl rfl) rfl (tk_63 hT) ki_182 kcl_182 rfl rfl (by decide) (m_182 (d := d + 2) (w := 2003395685) hT hI27) (kF (fun v297 v297p => ?_))
                        refine s_if_eq (t := 381) kx_196_374 (by decide) (fun hc298 => ?_) (fun hc298 => ?_)
                        · replace v297p := v297p.resolve_left (by omega)
                          refine s_aload_n kx_196_381 rfl ?_
                          refine s_ldc2_w kx_196_382 kp_196_319 ?_
                          refine s_callV2 (k := 63) (s1 := 3) (s2 := 0) (as := [(1, 427021001579)]) (rest := []) kx_196_385 kp_196_361 (Or.inl rfl) rfl (tk_63 hT) ki_182 kcl_182 rfl rfl (by decide) (m_182 (d := d + 2) (w := 427021001579) hT hI27) (kF (fun v299 v299p => ?_))
                          refine s_if_eq (t := 395) kx_196_388 (by decide) (fun hc300 => ?_) (fun hc300 => ?_)
                          · replace v299p := v299p.resolve_left (by omega)
                            refine s_aload_n kx_196_395 rfl ?_
                            refine s_ldc2_w kx_196_396 kp_196_321 ?_
                            refine s_callV2 (k := 63) (s1 := 3) (s2 := 0) (as := [(1, 7305070)]) (rest := []) kx_196_399 kp_196_361 (Or.inl rfl) rfl (tk_63 hT) ki_182 kcl_182 rfl rfl (by decide) (m_182 (d := d + 2) (w := 7305070) hT hI27) (kF (fun v301 v301p => ?_))
                            refine s_if_eq (t := 410) kx_196_402 (by decide) (fun hc302 => ?_) (fun hc302 => ?_)
                            · replace v301p := v301p.resolve_left (by omega)
                              refine s_iconst (v := (-1)) kx_196_410 (by decide) ?_
                              exact cP.wk (lS1 rfl lS0) (jn305 (-1) (by omega) (by omega) (by omega))
                            · replace v301p := v301p.resolve_right (by omega)
                              refine s_bipush (v := 6) kx_196_405 (by decide) ?_
                              refine s_goto (t := 411) kx_196_407 (by decide) ?_
                              exact cP.wk (lS1 rfl lS0) (jn305 6 (by omega) (by omega) (by omega))
                          · replace v299p := v299p.resolve_right (by omega)
                            refine s_iconst (v := 5) kx_196_391 (by decide) ?_
                            refine s_goto (t := 411) kx_196_392 (by decide) ?_
                            exact cP.wk (lS1 rfl lS0) (jn305 5 (by omega) (by omega) (by omega))
                        · replace v297p := v297p.resolve_right (by omega)
                          refine s_iconst (v := 4) kx_196_377 (by decide) ?_
                          refine s_goto (t := 411) kx_196_378 (by decide) ?_
                          exact cP.wk (lS1 rfl lS0) (jn305 4 (by omega) (by omega) (by omega))
                      · replace v295p := v295p.resolve_right (by omega)
                        refine s_iconst (v := 3) kx_196_363 (by decide) ?_
                        refine s_goto (t := 411) kx_196_364 (by decide) ?_
                        exact cP.wk (lS1 rfl lS0) (jn305 3 (by omega) (by omega) (by omega))
                    · replace v293p := v293p.resolve_right (by omega)
                      refine s_iconst (v := 2) kx_196_349 (by decide) ?_
                      refine s_goto (t := 411) kx_196_350 (by decide) ?_
                      exact cP.wk (lS1 rfl lS0) (jn305 2 (by omega) (by omega) (by omega))
                  · replace v291p := v291p.resolve_right (by omega)
                    refine s_iconst (v := 1) kx_196_335 (by decide) ?_
                    refine s_goto (t := 411) kx_196_336 (by decide) ?_
                    exact cP.wk (lS1 rfl lS0) (jn305 1 (by omega) (by omega) (by omega))
                · have hJ303 : Fr fS_196_j318 M27 M27 := Fr.refl
                  refine s_iconst (v := 0) kx_196_321 (by decide) ?_
                  refine s_goto (t := 411) kx_196_322 (by decide) ?_
                  exact cP.wk (lS1 rfl lS0) (jn305 0 (by omega) (by omega) (by omega))
              · replace v286p := v286p.resolve_right (by omega)
                refine s_aload_n kx_196_217 rfl ?_
                refine s_ldc2_w kx_196_218 kp_196_333 ?_
                refine s_callV2 (k := 63) (s1 := 3) (s2 := 0) (as := [(1, 7170414)]) (rest := []) kx_196_221 kp_196_361 (Or.inl rfl) rfl (tk_63 hT) ki_182 kcl_182 rfl rfl (by decide) (m_182 (d := d + 2) (w := 7170414) hT hI27) (kF (fun v369 v369p => ?_))
                have jn376 : ∀ (y375 : Int), (15 ≤ y375) → (y375 ≤ 23) → ((y375 = 15 ∨ y375 = 16 ∨ y375 = 23)) → cP k_P xs Ln (d + 3) 196 249 [(0, rf 63)] [(0, y375)] (T, M27) (qW T M fS_196_m 0 (fun v M1 => 0 ≤ v ∧ v ≤ 1 ∧ (LXp M1 ∧ M 63 4 ≤ M1 63 4 ∧ M 63 9 ≤ M1 63 9 ∧ (OPd M M1 c a v)))) := by
                  intro y375 a377 a378 a379
                  refine s_istore_n kx_196_249 km_196_3 rfl ?_
                  refine s_aload_n kx_196_250 rfl ?_
                  refine s_callV2 (k := 63) (s1 := 1) (s2 := 0) (as := []) (rest := []) kx_196_251 kp_196_286 (Or.inl rfl) rfl (tk_63 hT) ki_180 kcl_180 rfl rfl (by decide) (m_180 (d := d + 1) hT hI27) (kV (fun M381 hI381 fr381 v380p => ?_))
                  have hFm381 := hFm27.call fr381 rfl
                  have tr382 := (fr381 63 9 rfl)
                  have tr383 := (fr381 63 35 rfl)
                  have tr384 := (fr381 63 42 rfl)
                  have tr385 := (fr381 63 43 rfl)
                  have tr386 := (fr381 63 45 rfl)
                  have tr387 := rg_63_9 hI381
                  refine s_aload_n kx_196_254 rfl ?_
                  refine s_callV2 (k := 63) (s1 := 1) (s2 := 0) (as := []) (rest := []) kx_196_255 kp_196_280 (Or.inl rfl) rfl (tk_63 hT) ki_179 kcl_179 rfl rfl (by decide) (m_179 (d := d + 1) hT hI381) (kV (fun M389 hI389 fr389 v388p => ?_))
                  have hFm389 := hFm381.call fr389 rfl
                  have tr390 := (fr389 63 3 rfl)
                  have tr391 := (fr389 63 4 rfl)
                  have tr392 := (fr389 63 5 rfl)
                  have tr393 := (fr389 63 35 rfl)
                  have tr394 := (fr389 63 42 rfl)
                  have tr395 := (fr389 63 43 rfl)
                  have tr396 := (fr389 63 45 rfl)
                  have tr397 := rg_63_9 hI389
                  refine s_aload_n kx_196_258 rfl ?_
                  refine s_bipush (v := 40) kx_196_259 (by decide) ?_
                  refine s_callV2 (k := 63) (s1 := 2) (s2 := 0) (as := [(0, 40)]) (rest := []) kx_196_261 kp_196_283 (Or.inl rfl) rfl (tk_63 hT) ki_181 kcl_181 rfl rfl (by decide) (m_181 (d := d + 2) (c := 40) hT hI389) (kF (fun v398 v398p => ?_))
                  refine s_if_ne (t := 276) kx_196_264 (by decide) (fun hc399 => ?_) (fun hc399 => ?_)
                  · replace v398p := v398p.resolve_right (by omega)
                    refine s_aload_n kx_196_276 rfl ?_
                    refine s_iload_n kx_196_277 rfl ?_
                    refine s_bipush (v := 23) kx_196_278 (by decide) ?_
                    refine s_icmp_ne (t := 288) kx_196_280 (by decide) (fun hc400 => ?_) (fun hc400 => ?_)
                    · refine s_iconst (v := 3) kx_196_288 (by decide) ?_
                      refine s_callV2 (k := 63) (s1 := 2) (s2 := 0) (as := [(0, 3)]) (rest := []) kx_196_289 kp_196_367 (Or.inl rfl) rfl (tk_63 hT) ki_194 kcl_194 rfl rfl (by decide) (m_194 (d := d) (kind := 3) hT hI389 (LXp.fr (show LXp M381 from v380p.2) fr389 rfl) (PI.fr (PI.fr hP37 fr381 rfl) fr389 rfl) (B0.fr (B0.fr hB36 fr381 rfl (fun _ => rfl)) fr389 rfl (fun _ => rfl)) (by omega)) (kV (fun M402 hI402 fr402 v401p => ?_))
                      have hFm402 := hFm389.call fr402 rfl
                      have tr403 := (fr402 63 35 rfl)
                      have tr404 := (fr402 63 45 rfl)
                      have tr405 := rg_63_9 hI402
                      refine s_aload_n kx_196_292 rfl ?_
                      refine r_getI (k := 63) (f := 9) kx_196_293 kp_196_39 (tk_63 hT) kf_12_9 (fun _ => rfl) (rg_63_9 hI402) (fun v406 v406e v406a v406b => ?_)
                      refine s_if_ne (t := 311) kx_196_296 (by decide) (fun hc407 => ?_) (fun hc407 => ?_)
                      · refine s_iconst (v := 0) kx_196_311 (by decide) ?_
                        have hk408 : M402 63 9 = v406 := v406e
                        exact s_iret kx_196_312 (Or.inr ⟨kq_196, by omega⟩) ⟨_, _, rfl, rfl, hI402, hFm402, ⟨by omega, by omega, v401p.1, (by omega), (by omega), (Or.inl (by omega))⟩⟩
                      · refine s_aload_n kx_196_299 rfl ?_
                        refine r_getR (k := 63) (f := 40) (k2 := 88) kx_196_300 kp_196_134 (tk_63 hT) kf_12_40 (by decide) (rq_63_40 hI402) ?_
                        refine s_aload_n kx_196_303 rfl ?_
                        refine r_getI (k := 63) (f := 42) kx_196_304 kp_196_140 (tk_63 hT) kf_12_42 (fun _ => rfl) (rg_63_42 hI402) (fun v409 v409e v409a v409b => ?_)
                        refine s_iconst (v := 1) kx_196_307 (by decide) ?_
                        refine r_sub kx_196_308 ⟨by omega, by omega⟩ ?_
                        refine s_iload_n kx_196_309 rfl ?_
                        refine r_ast (k := 88) kx_196_310 (tk_88 hT) ⟨by omega, by omega⟩ hI402 (ru_88 (by omega) (by omega)) (fun M410 hI410 u410 => ?_)
                        have hFm410 := hFm402.up u410 rfl
                        have tr411 := (u410.2 63 3 (by omega))
                        have tr412 := (u410.2 63 4 (by omega))
                        have tr413 := (u410.2 63 5 (by omega))
                        have tr414 := (u410.2 63 9 (by omega))
                        have tr415 := (u410.2 63 35 (by omega))
                        have tr416 := (u410.2 63 42 (by omega))
                        have tr417 := (u410.2 63 43 (by omega))
                        have tr418 := (u410.2 63 45 (by omega))
                        have hpp := (v401p.2.2.2.resolve_left (by omega)).2.2.2 _ _ (by rw [v409e]; exact u410) (by omega)
                        refine s_iconst (v := 0) kx_196_311 (by decide) ?_
                        have hk419 : M410 63 9 = v406 := ((u410.2 63 9 (by omega)).trans v406e)
                        exact s_iret kx_196_312 (Or.inr ⟨kq_196, by omega⟩) ⟨_, _, rfl, rfl, hI410, hFm410, ⟨by omega, by omega, (LXp.up v401p.1 u410 (Or.inl (by decide))), (by omega), (by omega), (Or.inr ⟨by omega, Or.inr ⟨rfl, PI.to7 hpp (by omega)⟩⟩)⟩⟩
                    · refine s_bipush (v := 6) kx_196_283 (by decide) ?_
                      refine s_goto (t := 289) kx_196_285 (by decide) ?_
                      refine s_callV2 (k := 63) (s1 := 2) (s2 := 0) (as := [(0, 6)]) (rest := []) kx_196_289 kp_196_367 (Or.inl rfl) rfl (tk_63 hT) ki_194 kcl_194 rfl rfl (by decide) (m_194 (d := d) (kind := 6) hT hI389 (LXp.fr (show LXp M381 from v380p.2) fr389 rfl) (PI.fr (PI.fr hP37 fr381 rfl) fr389 rfl) (B0.fr (B0.fr hB36 fr381 rfl (fun _ => rfl)) fr389 rfl (fun _ => rfl)) (by omega)) (kV (fun M421 hI421 fr421 v420p => ?_))
                      have hFm421 := hFm389.call fr421 rfl
                      have tr422 := (fr421 63 35 rfl)
                      have tr423 := (fr421 63 45 rfl)
                      have tr424 := rg_63_9 hI421
                      refine s_aload_n kx_196_292 rfl ?_
                      refine r_getI (k := 63) (f := 9) kx_196_293 kp_196_39 (tk_63 hT) kf_12_9 (fun _ => rfl) (rg_63_9 hI421) (fun v425 v425e v425a v425b => ?_)
                      refine s_if_ne (t := 311) kx_196_296 (by decide) (fun hc426 => ?_) (fun hc426 => ?_)
                      · refine s_iconst (v := 0) kx_196_311 (by decide) ?_
                        have hk427 : M421 63 9 = v425 := v425e
                        exact s_iret kx_196_312 (Or.inr ⟨kq_196, by omega⟩) ⟨_, _, rfl, rfl, hI421, hFm421, ⟨by omega, by omega, v420p.1, (by omega), (by omega), (Or.inl (by omega))⟩⟩
                      · refine s_aload_n kx_196_299 rfl ?_
                        refine r_getR (k := 63) (f := 40) (k2 := 88) kx_196_300 kp_196_134 (tk_63 hT) kf_12_40 (by decide) (rq_63_40 hI421) ?_
                        refine s_aload_n kx_196_303 rfl ?_
                        refine r_getI (k := 63) (f := 42) kx_196_304 kp_196_140 (tk_63 hT) kf_12_42 (fun _ => rfl) (rg_63_42 hI421) (fun v428 v428e v428a v428b => ?_)
                        refine s_iconst (v := 1) kx_196_307 (by decide) ?_
                        refine r_sub kx_196_308 ⟨by omega, by omega⟩ ?_
                        refine s_iload_n kx_196_309 rfl ?_
                        refine r_ast (k := 88) kx_196_310 (tk_88 hT) ⟨by omega, by omega⟩ hI421 (ru_88 (by omega) (by omega)) (fun M429 hI429 u429 => ?_)
                        have hFm429 := hFm421.up u429 rfl
                        have tr430 := (u429.2 63 3 (by omega))
                        have tr431 := (u429.2 63 4 (by omega))
                        have tr432 := (u429.2 63 5 (by omega))
                        have tr433 := (u429.2 63 9 (by omega))
                        have tr434 := (u429.2 63 35 (by omega))
                        have tr435 := (u429.2 63 42 (by omega))
                        have tr436 := (u429.2 63 43 (by omega))
                        have tr437 := (u429.2 63 45 (by omega))
                        have hpp := (v420p.2.2.2.resolve_left (by omega)).2.2.2 _ _ (by rw [v428e]; exact u429) (by omega)
                        refine s_iconst (v := 0) kx_196_311 (by decide) ?_
                        have hk438 : M429 63 9 = v425 := ((u429.2 63 9 (by omega)).trans v425e)
                        exact s_iret kx_196_312 (Or.inr ⟨kq_196, by omega⟩) ⟨_, _, rfl, rfl, hI429, hFm429, ⟨by omega, by omega, (LXp.up v420p.1 u429 (Or.inl (by decide))), (by omega), (by omega), (Or.inr ⟨by omega, Or.inr ⟨rfl, PI.to7 hpp (by omega)⟩⟩)⟩⟩
                  · replace v398p := v398p.resolve_left (by omega)
                    refine s_aload_n kx_196_267 rfl ?_
                    refine s_iconst (v := 1) kx_196_268 (by decide) ?_
                    refine s_aload_n kx_196_269 rfl ?_
                    refine r_getI (k := 63) (f := 4) kx_196_270 kp_196_23 (tk_63 hT) kf_12_4 (fun _ => rfl) (rg_63_4 hI389) (fun v439 v439e v439a v439b => ?_)
                    refine s_callV2 (k := 63) (s1 := 3) (s2 := 0) (as := [(0, v439), (0, 1)]) (rest := []) kx_196_273 kp_196_263 (Or.inl rfl) rfl (tk_63 hT) ki_176 kcl_176 rfl rfl (by decide) (m_176 (d := d + 2) (kind := 1) (place := v439) hT hI389 (by omega)) (kV (fun M441 hI441 fr441 v440p => ?_))
                    have hFm441 := hFm389.call fr441 rfl
                    have tr442 := (fr441 63 3 rfl)
                    have tr443 := (fr441 63 4 rfl)
                    have tr444 := (fr441 63 5 rfl)
                    have tr445 := (fr441 63 35 rfl)
                    have tr446 := (fr441 63 42 rfl)
                    have tr447 := (fr441 63 43 rfl)
                    have tr448 := (fr441 63 45 rfl)
                    have tr449 := rg_63_9 hI441
                    refine s_aload_n kx_196_276 rfl ?_
                    refine s_iload_n kx_196_277 rfl ?_
                    refine s_bipush (v := 23) kx_196_278 (by decide) ?_
                    refine s_icmp_ne (t := 288) kx_196_280 (by decide) (fun hc450 => ?_) (fun hc450 => ?_)
                    · refine s_iconst (v := 3) kx_196_288 (by decide) ?_
                      refine s_callV2 (k := 63) (s1 := 2) (s2 := 0) (as := [(0, 3)]) (rest := []) kx_196_289 kp_196_367 (Or.inl rfl) rfl (tk_63 hT) ki_194 kcl_194 rfl rfl (by decide) (m_194 (d := d) (kind := 3) hT hI441 (LXp.fr (LXp.fr (show LXp M381 from v380p.2) fr389 rfl) fr441 rfl) (PI.fr (PI.fr (PI.fr hP37 fr381 rfl) fr389 rfl) fr441 rfl) (B0.fr (B0.fr (B0.fr hB36 fr381 rfl (fun _ => rfl)) fr389 rfl (fun _ => rfl)) fr441 rfl (fun _ => rfl)) (by omega)) (kV (fun M452 hI452 fr452 v451p => ?_))
                      have hFm452 := hFm441.call fr452 rfl
                      have tr453 := (fr452 63 35 rfl)
                      have tr454 := (fr452 63 45 rfl)
                      have tr455 := rg_63_9 hI452
                      refine s_aload_n kx_196_292 rfl ?_
                      refine r_getI (k := 63) (f := 9) kx_196_293 kp_196_39 (tk_63 hT) kf_12_9 (fun _ => rfl) (rg_63_9 hI452) (fun v456 v456e v456a v456b => ?_)
                      refine s_if_ne (t := 311) kx_196_296 (by decide) (fun hc457 => ?_) (fun hc457 => ?_)
                      · refine s_iconst (v := 0) kx_196_311 (by decide) ?_
                        have hk458 : M452 63 9 = v456 := v456e
                        exact s_iret kx_196_312 (Or.inr ⟨kq_196, by omega⟩) ⟨_, _, rfl, rfl, hI452, hFm452, ⟨by omega, by omega, v451p.1, (by omega), (by omega), (Or.inl (by omega))⟩⟩
                      · refine s_aload_n kx_196_299 rfl ?_
                        refine r_getR (k := 63) (f := 40) (k2 := 88) kx_196_300 kp_196_134 (tk_63 hT) kf_12_40 (by decide) (rq_63_40 hI452) ?_
                        refine s_aload_n kx_196_303 rfl ?_
                        refine r_getI (k := 63) (f := 42) kx_196_304 kp_196_140 (tk_63 hT) kf_12_42 (fun _ => rfl) (rg_63_42 hI452) (fun v459 v459e v459a v459b => ?_)
                        refine s_iconst (v := 1) kx_196_307 (by decide) ?_
                        refine r_sub kx_196_308 ⟨by omega, by omega⟩ ?_
                        refine s_iload_n kx_196_309 rfl ?_
                        refine r_ast (k := 88) kx_196_310 (tk_88 hT) ⟨by omega, by omega⟩ hI452 (ru_88 (by omega) (by omega)) (fun M460 hI460 u460 => ?_)
                        have hFm460 := hFm452.up u460 rfl
                        have tr461 := (u460.2 63 3 (by omega))
                        have tr462 := (u460.2 63 4 (by omega))
                        have tr463 := (u460.2 63 5 (by omega))
                        have tr464 := (u460.2 63 9 (by omega))
                        have tr465 := (u460.2 63 35 (by omega))
                        have tr466 := (u460.2 63 42 (by omega))
                        have tr467 := (u460.2 63 43 (by omega))
                        have tr468 := (u460.2 63 45 (by omega))
                        have hpp := (v451p.2.2.2.resolve_left (by omega)).2.2.2 _ _ (by rw [v459e]; exact u460) (by omega)
                        refine s_iconst (v := 0) kx_196_311 (by decide) ?_
                        have hk469 : M460 63 9 = v456 := ((u460.2 63 9 (by omega)).trans v456e)
                        exact s_iret kx_196_312 (Or.inr ⟨kq_196, by omega⟩) ⟨_, _, rfl, rfl, hI460, hFm460, ⟨by omega, by omega, (LXp.up v451p.1 u460 (Or.inl (by decide))), (by omega), (by omega), (Or.inr ⟨by omega, Or.inr ⟨rfl, PI.to7 hpp (by omega)⟩⟩)⟩⟩
                    · refine s_bipush (v := 6) kx_196_283 (by decide) ?_
                      refine s_goto (t := 289) kx_196_285 (by decide) ?_
                      refine s_callV2 (k := 63) (s1 := 2) (s2 := 0) (as := [(0, 6)]) (rest := []) kx_196_289 kp_196_367 (Or.inl rfl) rfl (tk_63 hT) ki_194 kcl_194 rfl rfl (by decide) (m_194 (d := d) (kind := 6) hT hI441 (LXp.fr (LXp.fr (show LXp M381 from v380p.2) fr389 rfl) fr441 rfl) (PI.fr (PI.fr (PI.fr hP37 fr381 rfl) fr389 rfl) fr441 rfl) (B0.fr (B0.fr (B0.fr hB36 fr381 rfl (fun _ => rfl)) fr389 rfl (fun _ => rfl)) fr441 rfl (fun _ => rfl)) (by omega)) (kV (fun M471 hI471 fr471 v470p => ?_))
                      have hFm471 := hFm441.call fr471 rfl
                      have tr472 := (fr471 63 35 rfl)
                      have tr473 := (fr471 63 45 rfl)
                      have tr474 := rg_63_9 hI471
                      refine s_aload_n kx_196_292 rfl ?_
                      refine r_getI (k := 63) (f := 9) kx_196_293 kp_196_39 (tk_63 hT) kf_12_9 (fun _ => rfl) (rg_63_9 hI471) (fun v475 v475e v475a v475b => ?_)
                      refine s_if_ne (t := 311) kx_196_296 (by decide) (fun hc476 => ?_) (fun hc476 => ?_)
                      · refine s_iconst (v := 0) kx_196_311 (by decide) ?_
                        have hk477 : M471 63 9 = v475 := v475e
                        exact s_iret kx_196_312 (Or.inr ⟨kq_196, by omega⟩) ⟨_, _, rfl, rfl, hI471, hFm471, ⟨by omega, by omega, v470p.1, (by omega), (by omega), (Or.inl (by omega))⟩⟩
                      · refine s_aload_n kx_196_299 rfl ?_
                        refine r_getR (k := 63) (f := 40) (k2 := 88) kx_196_300 kp_196_134 (tk_63 hT) kf_12_40 (by decide) (rq_63_40 hI471) ?_
                        refine s_aload_n kx_196_303 rfl ?_
                        refine r_getI (k := 63) (f := 42) kx_196_304 kp_196_140 (tk_63 hT) kf_12_42 (fun _ => rfl) (rg_63_42 hI471) (fun v478 v478e v478a v478b => ?_)
                        refine s_iconst (v := 1) kx_196_307 (by decide) ?_
                        refine r_sub kx_196_308 ⟨by omega, by omega⟩ ?_
                        refine s_iload_n kx_196_309 rfl ?_
                        refine r_ast (k := 88) kx_196_310 (tk_88 hT) ⟨by omega, by omega⟩ hI471 (ru_88 (by omega) (by omega)) (fun M479 hI479 u479 => ?_)
                        have hFm479 := hFm471.up u479 rfl
                        have tr480 := (u479.2 63 3 (by omega))
                        have tr481 := (u479.2 63 4 (by omega))
                        have tr482 := (u479.2 63 5 (by omega))
                        have tr483 := (u479.2 63 9 (by omega))
                        have tr484 := (u479.2 63 35 (by omega))
                        have tr485 := (u479.2 63 42 (by omega))
                        have tr486 := (u479.2 63 43 (by omega))
                        have tr487 := (u479.2 63 45 (by omega))
                        have hpp := (v470p.2.2.2.resolve_left (by omega)).2.2.2 _ _ (by rw [v478e]; exact u479) (by omega)
                        refine s_iconst (v := 0) kx_196_311 (by decide) ?_
                        have hk488 : M479 63 9 = v475 := ((u479.2 63 9 (by omega)).trans v475e)
                        exact s_iret kx_196_312 (Or.inr ⟨kq_196, by omega⟩) ⟨_, _, rfl, rfl, hI479, hFm479, ⟨by omega, by omega, (LXp.up v470p.1 u479 (Or.inl (by decide))), (by omega), (by omega), (Or.inr ⟨by omega, Or.inr ⟨rfl, PI.to7 hpp (by omega)⟩⟩)⟩⟩
                refine s_if_eq (t := 232) kx_196_224 (by decide) (fun hc370 => ?_) (fun hc370 => ?_)
                · have hJ371 : Fr fS_196_j224 M27 M27 := Fr.refl
                  replace v369p := v369p.resolve_left (by omega)
                  refine s_aload_n kx_196_232 rfl ?_
                  refine s_ldc2_w kx_196_233 kp_196_335 ?_
                  refine s_callV2 (k := 63) (s1 := 3) (s2 := 0) (as := [(1, 7168376)]) (rest := []) kx_196_236 kp_196_361 (Or.inl rfl) rfl (tk_63 hT) ki_182 kcl_182 rfl rfl (by decide) (m_182 (d := d + 2) (w := 7168376) hT hI27) (kF (fun v372 v372p => ?_))
                  refine s_if_eq (t := 247) kx_196_239 (by decide) (fun hc373 => ?_) (fun hc373 => ?_)
                  · replace v372p := v372p.resolve_left (by omega)
                    refine s_bipush (v := 23) kx_196_247 (by decide) ?_
                    exact cP.wk (lS1 rfl lS0) (jn376 23 (by omega) (by omega) (by omega))
                  · replace v372p := v372p.resolve_right (by omega)
                    refine s_bipush (v := 16) kx_196_242 (by decide) ?_
                    refine s_goto (t := 249) kx_196_244 (by decide) ?_
                    exact cP.wk (lS1 rfl lS0) (jn376 16 (by omega) (by omega) (by omega))
                · have hJ374 : Fr fS_196_j224 M27 M27 := Fr.refl
                  replace v369p := v369p.resolve_right (by omega)
                  refine s_bipush (v := 15) kx_196_227 (by decide) ?_
                  refine s_goto (t := 249) kx_196_229 (by decide) ?_
                  exact cP.wk (lS1 rfl lS0) (jn376 15 (by omega) (by omega) (by omega))
        · replace v40p := v40p.resolve_right (by omega)
          refine s_aload_n kx_196_180 rfl ?_
          refine s_iconst (v := 2) kx_196_181 (by decide) ?_
          refine s_callV2 (k := 63) (s1 := 2) (s2 := 0) (as := [(0, 2)]) (rest := []) kx_196_182 kp_196_367 (Or.inl rfl) rfl (tk_63 hT) ki_194 kcl_194 rfl rfl (by decide) (m_194 (d := d) (kind := 2) hT hI27 (LXp.up (LXp.fr hX fr2 rfl) u27 (Or.inl (by decide))) hP37 hB36 (by omega)) (kV (fun M490 hI490 fr490 v489p => ?_))
          have hFm490 := hFm27.call fr490 rfl
          have tr491 := (fr490 63 35 rfl)
          have tr492 := (fr490 63 45 rfl)
          have tr493 := rg_63_9 hI490
          refine s_iconst (v := 0) kx_196_185 (by decide) ?_
          exact s_iret kx_196_186 (Or.inr ⟨kq_196, by omega⟩) ⟨_, _, rfl, rfl, hI490, hFm490, ⟨by omega, by omega, v489p.1, (by omega), (by omega), (v489p.2.2.2.imp id (fun z => ⟨by omega, Or.inr ⟨rfl, PI.to7 (PQ.id z.2.2.2 (by decide)) (by omega)⟩⟩))⟩⟩
      · refine s_aload_n kx_196_51 rfl ?_
        refine s_ldc2_w kx_196_52 kp_196_329 ?_
        refine s_callV2 (k := 63) (s1 := 3) (s2 := 0) (as := [(1, 7237492)]) (rest := []) kx_196_55 kp_196_361 (Or.inl rfl) rfl (tk_63 hT) ki_182 kcl_182 rfl rfl (by decide) (m_182 (d := d + 2) (w := 7237492) hT hI2) (kF (fun v494 v494p => ?_))
        refine s_if_eq (t := 110) kx_196_58 (by decide) (fun hc495 => ?_) (fun hc495 => ?_)
        · replace v494p := v494p.resolve_left (by omega)
          refine s_aload_n kx_196_110 rfl ?_
          refine r_getR (k := 63) (f := 39) (k2 := 87) kx_196_111 kp_196_130 (tk_63 hT) kf_12_39 (by decide) (rq_63_39 hI2) ?_
          refine s_iload_n kx_196_114 rfl ?_
          refine s_iconst (v := 0) kx_196_115 (by decide) ?_
          refine r_bast (k := 87) kx_196_116 (tk_87 hT) ⟨by omega, by omega⟩ (by omega) hI2 (ru_87 (by omega) (by omega)) (fun M496 hI496 u496 => ?_)
          have hFm496 := hFm2.up u496 rfl
          have tr497 := (u496.2 63 3 (by omega))
          have tr498 := (u496.2 63 4 (by omega))
          have tr499 := (u496.2 63 5 (by omega))
          have tr500 := (u496.2 63 9 (by omega))
          have tr501 := (u496.2 63 35 (by omega))
          have tr502 := (u496.2 63 42 (by omega))
          have tr503 := (u496.2 63 43 (by omega))
          have tr504 := (u496.2 63 45 (by omega))
          have hB505 : B0 M496 := B0.mk (by omega) u496
          have hP506 := (PI.begins0 (PI.fr hP fr2 rfl) (by omega) u496)
          refine s_iload_n kx_196_117 rfl ?_
          refine s_if_eq (t := 137) kx_196_118 (by decide) (fun hc507 => absurd hc507 (by omega)) (fun hc507 => ?_)
          refine s_aload_n kx_196_121 rfl ?_
          refine s_bipush (v := 91) kx_196_122 (by decide) ?_
          refine s_callV2 (k := 63) (s1 := 2) (s2 := 0) (as := [(0, 91)]) (rest := []) kx_196_124 kp_196_283 (Or.inl rfl) rfl (tk_63 hT) ki_181 kcl_181 rfl rfl (by decide) (m_181 (d := d + 2) (c := 91) hT hI496) (kF (fun v508 v508p => ?_))
          refine s_if_eq (t := 137) kx_196_127 (by decide) (fun hc509 => ?_) (fun hc509 => ?_)
          · replace v508p := v508p.resolve_left (by omega)
            refine s_iload_n kx_196_137 rfl ?_
            refine s_if_eq (t := 171) kx_196_138 (by decide) (fun hc510 => absurd hc510 (by omega)) (fun hc510 => ?_)
            refine s_aload_n kx_196_141 rfl ?_
            refine s_ldc2_w kx_196_142 kp_196_331 ?_
            refine s_callV2 (k := 63) (s1 := 3) (s2 := 0) (as := [(1, 6384748)]) (rest := []) kx_196_145 kp_196_361 (Or.inl rfl) rfl (tk_63 hT) ki_182 kcl_182 rfl rfl (by decide) (m_182 (d := d + 2) (w := 6384748) hT hI496) (kF (fun v511 v511p => ?_))
            refine s_if_eq (t := 171) kx_196_148 (by decide) (fun hc512 => ?_) (fun hc512 => ?_)
            · replace v511p := v511p.resolve_left (by omega)
              refine s_aload_n kx_196_171 rfl ?_
              refine s_bipush (v := 40) kx_196_172 (by decide) ?_
              refine s_callV2 (k := 63) (s1 := 2) (s2 := 0) (as := [(0, 40)]) (rest := []) kx_196_174 kp_196_283 (Or.inl rfl) rfl (tk_63 hT) ki_181 kcl_181 rfl rfl (by decide) (m_181 (d := d + 2) (c := 40) hT hI496) (kF (fun v513 v513p => ?_))
              refine s_if_eq (t := 187) kx_196_177 (by decide) (fun hc514 => ?_) (fun hc514 => ?_)
              · replace v513p := v513p.resolve_left (by omega)
                refine s_aload_n kx_196_187 rfl ?_
                refine s_ldc2_w kx_196_188 kp_196_333 ?_
                refine s_callV2 (k := 63) (s1 := 3) (s2 := 0) (as := [(1, 7170414)]) (rest := []) kx_196_191 kp_196_361 (Or.inl rfl) rfl (tk_63 hT) ki_182 kcl_182 rfl rfl (by decide) (m_182 (d := d + 2) (w := 7170414) hT hI496) (kF (fun v515 v515p => ?_))
                refine s_if_ne (t := 217) kx_196_194 (by decide) (fun hc516 => ?_) (fun hc516 => ?_)
                · replace v515p := v515p.resolve_right (by omega)
                  refine s_aload_n kx_196_217 rfl ?_
                  refine s_ldc2_w kx_196_218 kp_196_333 ?_
                  refine s_callV2 (k := 63) (s1 := 3) (s2 := 0) (as := [(1, 7170414)]) (rest := []) kx_196_221 kp_196_361 (Or.inl rfl) rfl (tk_63 hT) ki_182 kcl_182 rfl rfl (by decide) (m_182 (d := d + 2) (w := 7170414) hT hI496) (kF (fun v517 v517p => ?_))
                  have jn524 : ∀ (y523 : Int), (15 ≤ y523) → (y523 ≤ 23) → ((y523 = 15 ∨ y523 = 16 ∨ y523 = 23)) → cP k_P xs Ln (d + 3) 196 249 [(0, rf 63)] [(0, y523)] (T, M496) (qW T M fS_196_m 0 (fun v M1 => 0 ≤ v ∧ v ≤ 1 ∧ (LXp M1 ∧ M 63 4 ≤ M1 63 4 ∧ M 63 9 ≤ M1 63 9 ∧ (OPd M M1 c a v)))) := by
                    intro y523 a525 a526 a527
                    refine s_istore_n kx_196_249 km_196_3 rfl ?_
                    refine s_aload_n kx_196_250 rfl ?_
                    refine s_callV2 (k := 63) (s1 := 1) (s2 := 0) (as := []) (rest := []) kx_196_251 kp_196_286 (Or.inl rfl) rfl (tk_63 hT) ki_180 kcl_180 rfl rfl (by decide) (m_180 (d := d + 1) hT hI496) (kV (fun M529 hI529 fr529 v528p => ?_))
                    have hFm529 := hFm496.call fr529 rfl
                    have tr530 := (fr529 63 9 rfl)
                    have tr531 := (fr529 63 35 rfl)
                    have tr532 := (fr529 63 42 rfl)
                    have tr533 := (fr529 63 43 rfl)
                    have tr534 := (fr529 63 45 rfl)
                    have tr535 := rg_63_9 hI529
                    refine s_aload_n kx_196_254 rfl ?_
                    refine s_callV2 (k := 63) (s1 := 1) (s2 := 0) (as := []) (rest := []) kx_196_255 kp_196_280 (Or.inl rfl) rfl (tk_63 hT) ki_179 kcl_179 rfl rfl (by decide) (m_179 (d := d + 1) hT hI529) (kV (fun M537 hI537 fr537 v536p => ?_))
                    have hFm537 := hFm529.call fr537 rfl
                    have tr538 := (fr537 63 3 rfl)
                    have tr539 := (fr537 63 4 rfl)
                    have tr540 := (fr537 63 5 rfl)
                    have tr541 := (fr537 63 35 rfl)
                    have tr542 := (fr537 63 42 rfl)
                    have tr543 := (fr537 63 43 rfl)
                    have tr544 := (fr537 63 45 rfl)
                    have tr545 := rg_63_9 hI537
                    refine s_aload_n kx_196_258 rfl ?_
                    refine s_bipush (v := 40) kx_196_259 (by decide) ?_
                    refine s_callV2 (k := 63) (s1 := 2) (s2 := 0) (as := [(0, 40)]) (rest := []) kx_196_261 kp_196_283 (Or.inl rfl) rfl (tk_63 hT) ki_181 kcl_181 rfl rfl (by decide) (m_181 (d := d + 2) (c := 40) hT hI537) (kF (fun v546 v546p => ?_))
                    refine s_if_ne (t := 276) kx_196_264 (by decide) (fun hc547 => ?_) (fun hc547 => ?_)
                    · replace v546p := v546p.resolve_right (by omega)
                      refine s_aload_n kx_196_276 rfl ?_
                      refine s_iload_n kx_196_277 rfl ?_
                      refine s_bipush (v := 23) kx_196_278 (by decide) ?_
                      refine s_icmp_ne (t := 288) kx_196_280 (by decide) (fun hc548 => ?_) (fun hc548 => ?_)
                      · refine s_iconst (v := 3) kx_196_288 (by decide) ?_
                        refine s_callV2 (k := 63) (s1 := 2) (s2 := 0) (as := [(0, 3)]) (rest := []) kx_196_289 kp_196_367 (Or.inl rfl) rfl (tk_63 hT) ki_194 kcl_194 rfl rfl (by decide) (m_194 (d := d) (kind := 3) hT hI537 (LXp.fr (show LXp M529 from v528p.2) fr537 rfl) (PI.fr (PI.fr hP506 fr529 rfl) fr537 rfl) (B0.fr (B0.fr hB505 fr529 rfl (fun _ => rfl)) fr537 rfl (fun _ => rfl)) (by omega)) (kV (fun M550 hI550 fr550 v549p => ?_))
                        have hFm550 := hFm537.call fr550 rfl
                        have tr551 := (fr550 63 35 rfl)
                        have tr552 := (fr550 63 45 rfl)
                        have tr553 := rg_63_9 hI550
                        refine s_aload_n kx_196_292 rfl ?_
                        refine r_getI (k := 63) (f := 9) kx_196_293 kp_196_39 (tk_63 hT) kf_12_9 (fun _ => rfl) (rg_63_9 hI550) (fun v554 v554e v554a v554b => ?_)
                        refine s_if_ne (t := 311) kx_196_296 (by decide) (fun hc555 => ?_) (fun hc555 => ?_)
                        · refine s_iconst (v := 0) kx_196_311 (by decide) ?_
                          have hk556 : M550 63 9 = v554 := v554e
                          exact s_iret kx_196_312 (Or.inr ⟨kq_196, by omega⟩) ⟨_, _, rfl, rfl, hI550, hFm550, ⟨by omega, by omega, v549p.1, (by omega), (by omega), (Or.inl (by omega))⟩⟩
                        · refine s_aload_n kx_196_299 rfl ?_
                          refine r_getR (k := 63) (f := 40) (k2 := 88) kx_196_300 kp_196_134 (tk_63 hT) kf_12_40 (by decide) (rq_63_40 hI550) ?_
                          refine s_aload_n kx_196_303 rfl ?_
                          refine r_getI (k := 63) (f := 42) kx_196_304 kp_196_140 (tk_63 hT) kf_12_42 (fun _ => rfl) (rg_63_42 hI550) (fun v557 v557e v557a v557b => ?_)
                          refine s_iconst (v := 1) kx_196_307 (by decide) ?_
                          refine r_sub kx_196_308 ⟨by omega, by omega⟩ ?_
                          refine s_iload_n kx_196_309 rfl ?_
                          refine r_ast (k := 88) kx_196_310 (tk_88 hT) ⟨by omega, by omega⟩ hI550 (ru_88 (by omega) (by omega)) (fun M558 hI558 u558 => ?_)
                          have hFm558 := hFm550.up u558 rfl
                          have tr559 := (u558.2 63 3 (by omega))
                          have tr560 := (u558.2 63 4 (by omega))
                          have tr561 := (u558.2 63 5 (by omega))
                          have tr562 := (u558.2 63 9 (by omega))
                          have tr563 := (u558.2 63 35 (by omega))
                          have tr564 := (u558.2 63 42 (by omega))
                          have tr565 := (u558.2 63 43 (by omega))
                          have tr566 := (u558.2 63 45 (by omega))
                          have hpp := (v549p.2.2.2.resolve_left (by omega)).2.2.2 _ _ (by rw [v557e]; exact u558) (by omega)
                          refine s_iconst (v := 0) kx_196_311 (by decide) ?_
                          have hk567 : M558 63 9 = v554 := ((u558.2 63 9 (by omega)).trans v554e)
                          exact s_iret kx_196_312 (Or.inr ⟨kq_196, by omega⟩) ⟨_, _, rfl, rfl, hI558, hFm558, ⟨by omega, by omega, (LXp.up v549p.1 u558 (Or.inl (by decide))), (by omega), (by omega), (Or.inr ⟨by omega, Or.inr ⟨rfl, PI.to7 hpp (by omega)⟩⟩)⟩⟩
                      · refine s_bipush (v := 6) kx_196_283 (by decide) ?_
                        refine s_goto (t := 289) kx_196_285 (by decide) ?_
                        refine s_callV2 (k := 63) (s1 := 2) (s2 := 0) (as := [(0, 6)]) (rest := []) kx_196_289 kp_196_367 (Or.inl rfl) rfl (tk_63 hT) ki_194 kcl_194 rfl rfl (by decide) (m_194 (d := d) (kind := 6) hT hI537 (LXp.fr (show LXp M529 from v528p.2) fr537 rfl) (PI.fr (PI.fr hP506 fr529 rfl) fr537 rfl) (B0.fr (B0.fr hB505 fr529 rfl (fun _ => rfl)) fr537 rfl (fun _ => rfl)) (by omega)) (kV (fun M569 hI569 fr569 v568p => ?_))
                        have hFm569 := hFm537.call fr569 rfl
                        have tr570 := (fr569 63 35 rfl)
                        have tr571 := (fr569 63 45 rfl)
                        have tr572 := rg_63_9 hI569
                        refine s_aload_n kx_196_292 rfl ?_
                        refine r_getI (k := 63) (f := 9) kx_196_293 kp_196_39 (tk_63 hT) kf_12_9 (fun _ => rfl) (rg_63_9 hI569) (fun v573 v573e v573a v573b => ?_)
                        refine s_if_ne (t := 311) kx_196_296 (by decide) (fun hc574 => ?_) (fun hc574 => ?_)
                        · refine s_iconst (v := 0) kx_196_311 (by decide) ?_
                          have hk575 : M569 63 9 = v573 := v573e
                          exact s_iret kx_196_312 (Or.inr ⟨kq_196, by omega⟩) ⟨_, _, rfl, rfl, hI569, hFm569, ⟨by omega, by omega, v568p.1, (by omega), (by omega), (Or.inl (by omega))⟩⟩
                        · refine s_aload_n kx_196_299 rfl ?_
                          refine r_getR (k := 63) (f := 40) (k2 := 88) kx_196_300 kp_196_134 (tk_63 hT) kf_12_40 (by decide) (rq_63_40 hI569) ?_
                          refine s_aload_n kx_196_303 rfl ?_
                          refine r_getI (k := 63) (f := 42) kx_196_304 kp_196_140 (tk_63 hT) kf_12_42 (fun _ => rfl) (rg_63_42 hI569) (fun v576 v576e v576a v576b => ?_)
                          refine s_iconst (v := 1) kx_196_307 (by decide) ?_
                          refine r_sub kx_196_308 ⟨by omega, by omega⟩ ?_
                          refine s_iload_n kx_196_309 rfl ?_
                          refine r_ast (k := 88) kx_196_310 (tk_88 hT) ⟨by omega, by omega⟩ hI569 (ru_88 (by omega) (by omega)) (fun M577 hI577 u577 => ?_)
                          have hFm577 := hFm569.up u577 rfl
                          have tr578 := (u577.2 63 3 (by omega))
                          have tr579 := (u577.2 63 4 (by omega))
                          have tr580 := (u577.2 63 5 (by omega))
                          have tr581 := (u577.2 63 9 (by omega))
                          have tr582 := (u577.2 63 35 (by omega))
                          have tr583 := (u577.2 63 42 (by omega))
                          have tr584 := (u577.2 63 43 (by omega))
                          have tr585 := (u577.2 63 45 (by omega))
                          have hpp := (v568p.2.2.2.resolve_left (by omega)).2.2.2 _ _ (by rw [v576e]; exact u577) (by omega)
                          refine s_iconst (v := 0) kx_196_311 (by decide) ?_
                          have hk586 : M577 63 9 = v573 := ((u577.2 63 9 (by omega)).trans v573e)
                          exact s_iret kx_196_312 (Or.inr ⟨kq_196, by omega⟩) ⟨_, _, rfl, rfl, hI577, hFm577, ⟨by omega, by omega, (LXp.up v568p.1 u577 (Or.inl (by decide))), (by omega), (by omega), (Or.inr ⟨by omega, Or.inr ⟨rfl, PI.to7 hpp (by omega)⟩⟩)⟩⟩
                    · replace v546p := v546p.resolve_left (by omega)
                      refine s_aload_n kx_196_267 rfl ?_
                      refine s_iconst (v := 1) kx_196_268 (by decide) ?_
                      refine s_aload_n kx_196_269 rfl ?_
                      refine r_getI (k := 63) (f := 4) kx_196_270 kp_196_23 (tk_63 hT) kf_12_4 (fun _ => rfl) (rg_63_4 hI537) (fun v587 v587e v587a v587b => ?_)
                      refine s_callV2 (k := 63) (s1 := 3) (s2 := 0) (as := [(0, v587), (0, 1)]) (rest := []) kx_196_273 kp_196_263 (Or.inl rfl) rfl (tk_63 hT) ki_176 kcl_176 rfl rfl (by decide) (m_176 (d := d + 2) (kind := 1) (place := v587) hT hI537 (by omega)) (kV (fun M589 hI589 fr589 v588p => ?_))
                      have hFm589 := hFm537.call fr589 rfl
                      have tr590 := (fr589 63 3 rfl)
                      have tr591 := (fr589 63 4 rfl)
                      have tr592 := (fr589 63 5 rfl)
                      have tr593 := (fr589 63 35 rfl)
                      have tr594 := (fr589 63 42 rfl)
                      have tr595 := (fr589 63 43 rfl)
                      have tr596 := (fr589 63 45 rfl)
                      have tr597 := rg_63_9 hI589
                      refine s_aload_n kx_196_276 rfl ?_
                      refine s_iload_n kx_196_277 rfl ?_
                      refine s_bipush (v := 23) kx_196_278 (by decide) ?_
                      refine s_icmp_ne (t := 288) kx_196_280 (by decide) (fun hc598 => ?_) (fun hc598 => ?_)
                      · refine s_iconst (v := 3) kx_196_288 (by decide) ?_
                        refine s_callV2 (k := 63) (s1 := 2) (s2 := 0) (as := [(0, 3)]) (rest := []) kx_196_289 kp_196_367 (Or.inl rfl) rfl (tk_63 hT) ki_194 kcl_194 rfl rfl (by decide) (m_194 (d := d) (kind := 3) hT hI589 (LXp.fr (LXp.fr (show LXp M529 from v528p.2) fr537 rfl) fr589 rfl) (PI.fr (PI.fr (PI.fr hP506 fr529 rfl) fr537 rfl) fr589 rfl) (B0.fr (B0.fr (B0.fr hB505 fr529 rfl (fun _ => rfl)) fr537 rfl (fun _ => rfl)) fr589 rfl (fun _ => rfl)) (by omega)) (kV (fun M600 hI600 fr600 v599p => ?_))
                        have hFm600 := hFm589.call fr600 rfl
                        have tr601 := (fr600 63 35 rfl)
                        have tr602 := (fr600 63 45 rfl)
                        have tr603 := rg_63_9 hI600
                        refine s_aload_n kx_196_292 rfl ?_
                        refine r_getI (k := 63) (f := 9) kx_196_293 kp_196_39 (tk_63 hT) kf_12_9 (fun _ => rfl) (rg_63_9 hI600) (fun v604 v604e v604a v604b => ?_)
                        refine s_if_ne (t := 311) kx_196_296 (by decide) (fun hc605 => ?_) (fun hc605 => ?_)
                        · refine s_iconst (v := 0) kx_196_311 (by decide) ?_
                          have hk606 : M600 63 9 = v604 := v604e
                          exact s_iret kx_196_312 (Or.inr ⟨kq_196, by omega⟩) ⟨_, _, rfl, rfl, hI600, hFm600, ⟨by omega, by omega, v599p.1, (by omega), (by omega), (Or.inl (by omega))⟩⟩
                        · refine s_aload_n kx_196_299 rfl ?_
                          refine r_getR (k := 63) (f := 40) (k2 := 88) kx_196_300 kp_196_134 (tk_63 hT) kf_12_40 (by decide) (rq_63_40 hI600) ?_
                          refine s_aload_n kx_196_303 rfl ?_
                          refine r_getI (k := 63) (f := 42) kx_196_304 kp_196_140 (tk_63 hT) kf_12_42 (fun _ => rfl) (rg_63_42 hI600) (fun v607 v607e v607a v607b => ?_)
                          refine s_iconst (v := 1) kx_196_307 (by decide) ?_
                          refine r_sub kx_196_308 ⟨by omega, by omega⟩ ?_
                          refine s_iload_n kx_196_309 rfl ?_
                          refine r_ast (k := 88) kx_196_310 (tk_88 hT) ⟨by omega, by omega⟩ hI600 (ru_88 (by omega) (by omega)) (fun M608 hI608 u608 => ?_)
                          have hFm608 := hFm600.up u608 rfl
                          have tr609 := (u608.2 63 3 (by omega))
                          have tr610 := (u608.2 63 4 (by omega))
                          have tr611 := (u608.2 63 5 (by omega))
                          have tr612 := (u608.2 63 9 (by omega))
                          have tr613 := (u608.2 63 35 (by omega))
                          have tr614 := (u608.2 63 42 (by omega))
                          have tr615 := (u608.2 63 43 (by omega))
                          have tr616 := (u608.2 63 45 (by omega))
                          have hpp := (v599p.2.2.2.resolve_left (by omega)).2.2.2 _ _ (by rw [v607e]; exact u608) (by omega)
                          refine s_iconst (v := 0) kx_196_311 (by decide) ?_
                          have hk617 : M608 63 9 = v604 := ((u608.2 63 9 (by omega)).trans v604e)
                          exact s_iret kx_196_312 (Or.inr ⟨kq_196, by omega⟩) ⟨_, _, rfl, rfl, hI608, hFm608, ⟨by omega, by omega, (LXp.up v599p.1 u608 (Or.inl (by decide))), (by omega), (by omega), (Or.inr ⟨by omega, Or.inr ⟨rfl, PI.to7 hpp (by omega)⟩⟩)⟩⟩
                      · refine s_bipush (v := 6) kx_196_283 (by decide) ?_
                        refine s_goto (t := 289) kx_196_285 (by decide) ?_
                        refine s_callV2 (k := 63) (s1 := 2) (s2 := 0) (as := [(0, 6)]) (rest := []) kx_196_289 kp_196_367 (Or.inl rfl) rfl (tk_63 hT) ki_194 kcl_194 rfl rfl (by decide) (m_194 (d := d) (kind := 6) hT hI589 (LXp.fr (LXp.fr (show LXp M529 from v528p.2) fr537 rfl) fr589 rfl) (PI.fr (PI.fr (PI.fr hP506 fr529 rfl) fr537 rfl) fr589 rfl) (B0.fr (B0.fr (B0.fr hB505 fr529 rfl (fun _ => rfl)) fr537 rfl (fun _ => rfl)) fr589 rfl (fun _ => rfl)) (by omega)) (kV (fun M619 hI619 fr619 v618p => ?_))
                        have hFm619 := hFm589.call fr619 rfl
                        have tr620 := (fr619 63 35 rfl)
                        have tr621 := (fr619 63 45 rfl)
                        have tr622 := rg_63_9 hI619
                        refine s_aload_n kx_196_292 rfl ?_
                        refine r_getI (k := 63) (f := 9) kx_196_293 kp_196_39 (tk_63 hT) kf_12_9 (fun _ => rfl) (rg_63_9 hI619) (fun v623 v623e v623a v623b => ?_)
                        refine s_if_ne (t := 311) kx_196_296 (by decide) (fun hc624 => ?_) (fun hc624 => ?_)
                        · refine s_iconst (v := 0) kx_196_311 (by decide) ?_
                          have hk625 : M619 63 9 = v623 := v623e
                          exact s_iret kx_196_312 (Or.inr ⟨kq_196, by omega⟩) ⟨_, _, rfl, rfl, hI619, hFm619, ⟨by omega, by omega, v618p.1, (by omega), (by omega), (Or.inl (by omega))⟩⟩
                        · refine s_aload_n kx_196_299 rfl ?_
                          refine r_getR (k := 63) (f := 40) (k2 := 88) kx_196_300 kp_196_134 (tk_63 hT) kf_12_40 (by decide) (rq_63_40 hI619) ?_
                          refine s_aload_n kx_196_303 rfl ?_
                          refine r_getI (k := 63) (f := 42) kx_196_304 kp_196_140 (tk_63 hT) kf_12_42 (fun _ => rfl) (rg_63_42 hI619) (fun v626 v626e v626a v626b => ?_)
                          refine s_iconst (v := 1) kx_196_307 (by decide) ?_
                          refine r_sub kx_196_308 ⟨by omega, by omega⟩ ?_
                          refine s_iload_n kx_196_309 rfl ?_
                          refine r_ast (k := 88) kx_196_310 (tk_88 hT) ⟨by omega, by omega⟩ hI619 (ru_88 (by omega) (by omega)) (fun M627 hI627 u627 => ?_)
                          have hFm627 := hFm619.up u627 rfl
                          have tr628 := (u627.2 63 3 (by omega))
                          have tr629 := (u627.2 63 4 (by omega))
                          have tr630 := (u627.2 63 5 (by omega))
                          have tr631 := (u627.2 63 9 (by omega))
                          have tr632 := (u627.2 63 35 (by omega))
                          have tr633 := (u627.2 63 42 (by omega))
                          have tr634 := (u627.2 63 43 (by omega))
                          have tr635 := (u627.2 63 45 (by omega))
                          have hpp := (v618p.2.2.2.resolve_left (by omega)).2.2.2 _ _ (by rw [v626e]; exact u627) (by omega)
                          refine s_iconst (v := 0) kx_196_311 (by decide) ?_
                          have hk636 : M627 63 9 = v623 := ((u627.2 63 9 (by omega)).trans v623e)
                          exact s_iret kx_196_312 (Or.inr ⟨kq_196, by omega⟩) ⟨_, _, rfl, rfl, hI627, hFm627, ⟨by omega, by omega, (LXp.up v618p.1 u627 (Or.inl (by decide))), (by omega), (by omega), (Or.inr ⟨by omega, Or.inr ⟨rfl, PI.to7 hpp (by omega)⟩⟩)⟩⟩
                  refine s_if_eq (t := 232) kx_196_224 (by decide) (fun hc518 => ?_) (fun hc518 => ?_)
                  · have hJ519 : Fr fS_196_j224 M496 M496 := Fr.refl
                    replace v517p := v517p.resolve_left (by omega)
                    refine s_aload_n kx_196_232 rfl ?_
                    refine s_ldc2_w kx_196_233 kp_196_335 ?_
                    refine s_callV2 (k := 63) (s1 := 3) (s2 := 0) (as := [(1, 7168376)]) (rest := []) kx_196_236 kp_196_361 (Or.inl rfl) rfl (tk_63 hT) ki_182 kcl_182 rfl rfl (by decide) (m_182 (d := d + 2) (w := 7168376) hT hI496) (kF (fun v520 v520p => ?_))
                    refine s_if_eq (t := 247) kx_196_239 (by decide) (fun hc521 => ?_) (fun hc521 => ?_)
                    · replace v520p := v520p.resolve_left (by omega)
                      refine s_bipush (v := 23) kx_196_247 (by decide) ?_
                      exact cP.wk (lS1 rfl lS0) (jn524 23 (by omega) (by omega) (by omega))
                    · replace v520p := v520p.resolve_right (by omega)
                      refine s_bipush (v := 16) kx_196_242 (by decide) ?_
                      refine s_goto (t := 249) kx_196_244 (by decide) ?_
                      exact cP.wk (lS1 rfl lS0) (jn524 16 (by omega) (by omega) (by omega))
                  · have hJ522 : Fr fS_196_j224 M496 M496 := Fr.refl
                    replace v517p := v517p.resolve_right (by omega)
                    refine s_bipush (v := 15) kx_196_227 (by decide) ?_
                    refine s_goto (t := 249) kx_196_229 (by decide) ?_
                    exact cP.wk (lS1 rfl lS0) (jn524 15 (by omega) (by omega) (by omega))
                · replace v515p := v515p.resolve_left (by omega)
                  refine s_aload_n kx_196_197 rfl ?_
                  refine s_ldc2_w kx_196_198 kp_196_335 ?_
                  refine s_callV2 (k := 63) (s1 := 3) (s2 := 0) (as := [(1, 7168376)]) (rest := []) kx_196_201 kp_196_361 (Or.inl rfl) rfl (tk_63 hT) ki_182 kcl_182 rfl rfl (by decide) (m_182 (d := d + 2) (w := 7168376) hT hI496) (kF (fun v637 v637p => ?_))
                  refine s_if_ne (t := 217) kx_196_204 (by decide) (fun hc638 => ?_) (fun hc638 => ?_)
                  · replace v637p := v637p.resolve_right (by omega)
                    refine s_aload_n kx_196_217 rfl ?_
                    refine s_ldc2_w kx_196_218 kp_196_333 ?_
                    refine s_callV2 (k := 63) (s1 := 3) (s2 := 0) (as := [(1, 7170414)]) (rest := []) kx_196_221 kp_196_361 (Or.inl rfl) rfl (tk_63 hT) ki_182 kcl_182 rfl rfl (by decide) (m_182 (d := d + 2) (w := 7170414) hT hI496) (kF (fun v639 v639p => ?_))
                    have jn646 : ∀ (y645 : Int), (15 ≤ y645) → (y645 ≤ 23) → ((y645 = 15 ∨ y645 = 16 ∨ y645 = 23)) → cP k_P xs Ln (d + 3) 196 249 [(0, rf 63)] [(0, y645)] (T, M496) (qW T M fS_196_m 0 (fun v M1 => 0 ≤ v ∧ v ≤ 1 ∧ (LXp M1 ∧ M 63 4 ≤ M1 63 4 ∧ M 63 9 ≤ M1 63 9 ∧ (OPd M M1 c a v)))) := by
                      intro y645 a647 a648 a649
                      refine s_istore_n kx_196_249 km_196_3 rfl ?_
                      refine s_aload_n kx_196_250 rfl ?_
                      refine s_callV2 (k := 63) (s1 := 1) (s2 := 0) (as := []) (rest := []) kx_196_251 kp_196_286 (Or.inl rfl) rfl (tk_63 hT) ki_180 kcl_180 rfl rfl (by decide) (m_180 (d := d + 1) hT hI496) (kV (fun M651 hI651 fr651 v650p => ?_))
                      have hFm651 := hFm496.call fr651 rfl
                      have tr652 := (fr651 63 9 rfl)
                      have tr653 := (fr651 63 35 rfl)
                      have tr654 := (fr651 63 42 rfl)
                      have tr655 := (fr651 63 43 rfl)
                      have tr656 := (fr651 63 45 rfl)
                      have tr657 := rg_63_9 hI651
                      refine s_aload_n kx_196_254 rfl ?_
                      refine s_callV2 (k := 63) (s1 := 1) (s2 := 0) (as := []) (rest := []) kx_196_255 kp_196_280 (Or.inl rfl) rfl (tk_63 hT) ki_179 kcl_179 rfl rfl (by decide) (m_179 (d := d + 1) hT hI651) (kV (fun M659 hI659 fr659 v658p => ?_))
                      have hFm659 := hFm651.call fr659 rfl
                      have tr660 := (fr659 63 3 rfl)
                      have tr661 := (fr659 63 4 rfl)
                      have tr662 := (fr659 63 5 rfl)
                      have tr663 := (fr659 63 35 rfl)
                      have tr664 := (fr659 63 42 rfl)
                      have tr665 := (fr659 63 43 rfl)
                      have tr666 := (fr659 63 45 rfl)
                      have tr667 := rg_63_9 hI659
                      refine s_aload_n kx_196_258 rfl ?_
                      refine s_bipush (v := 40) kx_196_259 (by decide) ?_
                      refine s_callV2 (k := 63) (s1 := 2) (s2 := 0) (as := [(0, 40)]) (rest := []) kx_196_261 kp_196_283 (Or.inl rfl) rfl (tk_63 hT) ki_181 kcl_181 rfl rfl (by decide) (m_181 (d := d + 2) (c := 40) hT hI659) (kF (fun v668 v668p => ?_))
                      refine s_if_ne (t := 276) kx_196_264 (by decide) (fun hc669 => ?_) (fun hc669 => ?_)
                      · replace v668p := v668p.resolve_right (by omega)
                        refine s_aload_n kx_196_276 rfl ?_
                        refine s_iload_n kx_196_277 rfl ?_
                        refine s_bipush (v := 23) kx_196_278 (by decide) ?_
                        refine s_icmp_ne (t := 288) kx_196_280 (by decide) (fun hc670 => ?_) (fun hc670 => ?_)
                        · refine s_iconst (v := 3) kx_196_288 (by decide) ?_
                          refine s_callV2 (k := 63) (s1 := 2) (s2 := 0) (as := [(0, 3)]) (rest := []) kx_196_289 kp_196_367 (Or.inl rfl) rfl (tk_63 hT) ki_194 kcl_194 rfl rfl (by decide) (m_194 (d := d) (kind := 3) hT hI659 (LXp.fr (show LXp M651 from v650p.2) fr659 rfl) (PI.fr (PI.fr hP506 fr651 rfl) fr659 rfl) (B0.fr (B0.fr hB505 fr651 rfl (fun _ => rfl)) fr659 rfl (fun _ => rfl)) (by omega)) (kV (fun M672 hI672 fr672 v671p => ?_))
                          have hFm672 := hFm659.call fr672 rfl
                          have tr673 := (fr672 63 35 rfl)
                          have tr674 := (fr672 63 45 rfl)
                          have tr675 := rg_63_9 hI672
                          refine s_aload_n kx_196_292 rfl ?_
                          refine r_getI (k := 63) (f := 9) kx_196_293 kp_196_39 (tk_63 hT) kf_12_9 (fun _ => rfl) (rg_63_9 hI672) (fun v676 v676e v676a v676b => ?_)
                          refine s_if_ne (t := 311) kx_196_296 (by decide) (fun hc677 => ?_) (fun hc677 => ?_)
                          · refine s_iconst (v := 0) kx_196_311 (by decide) ?_
                            have hk678 : M672 63 9 = v676 := v676e
                            exact s_iret kx_196_312 (Or.inr ⟨kq_196, by omega⟩) ⟨_, _, rfl, rfl, hI672, hFm672, ⟨by omega, by omega, v671p.1, (by omega), (by omega), (Or.inl (by omega))⟩⟩
                          · refine s_aload_n kx_196_299 rfl ?_
                            refine r_getR (k := 63) (f := 40) (k2 := 88) kx_196_300 kp_196_134 (tk_63 hT) kf_12_40 (by decide) (rq_63_40 hI672) ?_
                            refine s_aload_n kx_196_303 rfl ?_
                            refine r_getI (k := 63) (f := 42) kx_196_304 kp_196_140 (tk_63 hT) kf_12_42 (fun _ => rfl) (rg_63_42 hI672) (fun v679 v679e v679a v679b => ?_)
                            refine s_iconst (v := 1) kx_196_307 (by decide) ?_
                            refine r_sub kx_196_308 ⟨by omega, by omega⟩ ?_
                            refine s_iload_n kx_196_309 rfl ?_
                            refine r_ast (k := 88) kx_196_310 (tk_88 hT) ⟨by omega, by omega⟩ hI672 (ru_88 (by omega) (by omega)) (fun M680 hI680 u680 => ?_)
                            have hFm680 := hFm672.up u680 rfl
                            have tr681 := (u680.2 63 3 (by omega))
                            have tr682 := (u680.2 63 4 (by omega))
                            have tr683 := (u680.2 63 5 (by omega))
                            have tr684 := (u680.2 63 9 (by omega))
                            have tr685 := (u680.2 63 35 (by omega))
                            have tr686 := (u680.2 63 42 (by omega))
                            have tr687 := (u680.2 63 43 (by omega))
                            have tr688 := (u680.2 63 45 (by omega))
                            have hpp := (v671p.2.2.2.resolve_left (by omega)).2.2.2 _ _ (by rw [v679e]; exact u680) (by omega)
                            refine s_iconst (v := 0) kx_196_311 (by decide) ?_
                            have hk689 : M680 63 9 = v676 := ((u680.2 63 9 (by omega)).trans v676e)
                            exact s_iret kx_196_312 (Or.inr ⟨kq_196, by omega⟩) ⟨_, _, rfl, rfl, hI680, hFm680, ⟨by omega, by omega, (LXp.up v671p.1 u680 (Or.inl (by decide))), (by omega), (by omega), (Or.inr ⟨by omega, Or.inr ⟨rfl, PI.to7 hpp (by omega)⟩⟩)⟩⟩
                        · refine s_bipush (v := 6) kx_196_283 (by decide) ?_
                          refine s_goto (t := 289) kx_196_285 (by decide) ?_
                          refine s_callV2 (k := 63) (s1 := 2) (s2 := 0) (as := [(0, 6)]) (rest := []) kx_196_289 kp_196_367 (Or.inl rfl) rfl (tk_63 hT) ki_194 kcl_194 rfl rfl (by decide) (m_194 (d := d) (kind := 6) hT hI659 (LXp.fr (show LXp M651 from v650p.2) fr659 rfl) (PI.fr (PI.fr hP506 fr651 rfl) fr659 rfl) (B0.fr (B0.fr hB505 fr651 rfl (fun _ => rfl)) fr659 rfl (fun _ => rfl)) (by omega)) (kV (fun M691 hI691 fr691 v690p => ?_))
                          have hFm691 := hFm659.call fr691 rfl
                          have tr692 := (fr691 63 35 rfl)
                          have tr693 := (fr691 63 45 rfl)
                          have tr694 := rg_63_9 hI691
                          refine s_aload_n kx_196_292 rfl ?_
                          refine r_getI (k := 63) (f := 9) kx_196_293 kp_196_39 (tk_63 hT) kf_12_9 (fun _ => rfl) (rg_63_9 hI691) (fun v695 v695e v695a v695b => ?_)
                          refine s_if_ne (t := 311) kx_196_296 (by decide) (fun hc696 => ?_) (fun hc696 => ?_)
                          · refine s_iconst (v := 0) kx_196_311 (by decide) ?_
                            have hk697 : M691 63 9 = v695 := v695e
                            exact s_iret kx_196_312 (Or.inr ⟨kq_196, by omega⟩) ⟨_, _, rfl, rfl, hI691, hFm691, ⟨by omega, by omega, v690p.1, (by omega), (by omega), (Or.inl (by omega))⟩⟩
                          · refine s_aload_n kx_196_299 rfl ?_
                            refine r_getR (k := 63) (f := 40) (k2 := 88) kx_196_300 kp_196_134 (tk_63 hT) kf_12_40 (by decide) (rq_63_40 hI691) ?_
                            refine s_aload_n kx_196_303 rfl ?_
                            refine r_getI (k := 63) (f := 42) kx_196_304 kp_196_140 (tk_63 hT) kf_12_42 (fun _ => rfl) (rg_63_42 hI691) (fun v698 v698e v698a v698b => ?_)
                            refine s_iconst (v := 1) kx_196_307 (by decide) ?_
                            refine r_sub kx_196_308 ⟨by omega, by omega⟩ ?_
                            refine s_iload_n kx_196_309 rfl ?_
                            refine r_ast (k := 88) kx_196_310 (tk_88 hT) ⟨by omega, by omega⟩ hI691 (ru_88 (by omega) (by omega)) (fun M699 hI699 u699 => ?_)
                            have hFm699 := hFm691.up u699 rfl
                            have tr700 := (u699.2 63 3 (by omega))
                            have tr701 := (u699.2 63 4 (by omega))
                            have tr702 := (u699.2 63 5 (by omega))
                            have tr703 := (u699.2 63 9 (by omega))
                            have tr704 := (u699.2 63 35 (by omega))
                            have tr705 := (u699.2 63 42 (by omega))
                            have tr706 := (u699.2 63 43 (by omega))
                            have tr707 := (u699.2 63 45 (by omega))
                            have hpp := (v690p.2.2.2.resolve_left (by omega)).2.2.2 _ _ (by rw [v698e]; exact u699) (by omega)
                            refine s_iconst (v := 0) kx_196_311 (by decide) ?_
                            have hk708 : M699 63 9 = v695 := ((u699.2 63 9 (by omega)).trans v695e)
                            exact s_iret kx_196_312 (Or.inr ⟨kq_196, by omega⟩) ⟨_, _, rfl, rfl, hI699, hFm699, ⟨by omega, by omega, (LXp.up v690p.1 u699 (Or.inl (by decide))), (by omega), (by omega), (Or.inr ⟨by omega, Or.inr ⟨rfl, PI.to7 hpp (by omega)⟩⟩)⟩⟩
                      · replace v668p := v668p.resolve_left (by omega)
                        refine s_aload_n kx_196_267 rfl ?_
                        refine s_iconst (v := 1) kx_196_268 (by decide) ?_
                        refine s_aload_n kx_196_269 rfl ?_
                        refine r_getI (k := 63) (f := 4) kx_196_270 kp_196_23 (tk_63 hT) kf_12_4 (fun _ => rfl) (rg_63_4 hI659) (fun v709 v709e v709a v709b => ?_)
                        refine s_callV2 (k := 63) (s1 := 3) (s2 := 0) (as := [(0, v709), (0, 1)]) (rest := []) kx_196_273 kp_196_263 (Or.inl rfl) rfl (tk_63 hT) ki_176 kcl_176 rfl rfl (by decide) (m_176 (d := d + 2) (kind := 1) (place := v709) hT hI659 (by omega)) (kV (fun M711 hI711 fr711 v710p => ?_))
                        have hFm711 := hFm659.call fr711 rfl
                        have tr712 := (fr711 63 3 rfl)
                        have tr713 := (fr711 63 4 rfl)
                        have tr714 := (fr711 63 5 rfl)
                        have tr715 := (fr711 63 35 rfl)
                        have tr716 := (fr711 63 42 rfl)
                        have tr717 := (fr711 63 43 rfl)
                        have tr718 := (fr711 63 45 rfl)
                        have tr719 := rg_63_9 hI711
                        refine s_aload_n kx_196_276 rfl ?_
                        refine s_iload_n kx_196_277 rfl ?_
                        refine s_bipush (v := 23) kx_196_278 (by decide) ?_
                        refine s_icmp_ne (t := 288) kx_196_280 (by decide) (fun hc720 => ?_) (fun hc720 => ?_)
                        · refine s_iconst (v := 3) kx_196_288 (by decide) ?_
                          refine s_callV2 (k := 63) (s1 := 2) (s2 := 0) (as := [(0, 3)]) (rest := []) kx_196_289 kp_196_367 (Or.inl rfl) rfl (tk_63 hT) ki_194 kcl_194 rfl rfl (by decide) (m_194 (d := d) (kind := 3) hT hI711 (LXp.fr (LXp.fr (show LXp M651 from v650p.2) fr659 rfl) fr711 rfl) (PI.fr (PI.fr (PI.fr hP506 fr651 rfl) fr659 rfl) fr711 rfl) (B0.fr (B0.fr (B0.fr hB505 fr651 rfl (fun _ => rfl)) fr659 rfl (fun _ => rfl)) fr711 rfl (fun _ => rfl)) (by omega)) (kV (fun M722 hI722 fr722 v721p => ?_))
                          have hFm722 := hFm711.call fr722 rfl
                          have tr723 := (fr722 63 35 rfl)
                          have tr724 := (fr722 63 45 rfl)
                          have tr725 := rg_63_9 hI722
                          refine s_aload_n kx_196_292 rfl ?_
                          refine r_getI (k := 63) (f := 9) kx_196_293 kp_196_39 (tk_63 hT) kf_12_9 (fun _ => rfl) (rg_63_9 hI722) (fun v726 v726e v726a v726b => ?_)
                          refine s_if_ne (t := 311) kx_196_296 (by decide) (fun hc727 => ?_) (fun hc727 => ?_)
                          · refine s_iconst (v := 0) kx_196_311 (by decide) ?_
                            have hk728 : M722 63 9 = v726 := v726e
                            exact s_iret kx_196_312 (Or.inr ⟨kq_196, by omega⟩) ⟨_, _, rfl, rfl, hI722, hFm722, ⟨by omega, by omega, v721p.1, (by omega), (by omega), (Or.inl (by omega))⟩⟩
                          · refine s_aload_n kx_196_299 rfl ?_
                            refine r_getR (k := 63) (f := 40) (k2 := 88) kx_196_300 kp_196_134 (tk_63 hT) kf_12_40 (by decide) (rq_63_40 hI722) ?_
                            refine s_aload_n kx_196_303 rfl ?_
                            refine r_getI (k := 63) (f := 42) kx_196_304 kp_196_140 (tk_63 hT) kf_12_42 (fun _ => rfl) (rg_63_42 hI722) (fun v729 v729e v729a v729b => ?_)
                            refine s_iconst (v := 1) kx_196_307 (by decide) ?_
                            refine r_sub kx_196_308 ⟨by omega, by omega⟩ ?_
                            refine s_iload_n kx_196_309 rfl ?_
                            refine r_ast (k := 88) kx_196_310 (tk_88 hT) ⟨by omega, by omega⟩ hI722 (ru_88 (by omega) (by omega)) (fun M730 hI730 u730 => ?_)
                            have hFm730 := hFm722.up u730 rfl
                            have tr731 := (u730.2 63 3 (by omega))
                            have tr732 := (u730.2 63 4 (by omega))
                            have tr733 := (u730.2 63 5 (by omega))
                            have tr734 := (u730.2 63 9 (by omega))
                            have tr735 := (u730.2 63 35 (by omega))
                            have tr736 := (u730.2 63 42 (by omega))
                            have tr737 := (u730.2 63 43 (by omega))
                            have tr738 := (u730.2 63 45 (by omega))
                            have hpp := (v721p.2.2.2.resolve_left (by omega)).2.2.2 _ _ (by rw [v729e]; exact u730) (by omega)
                            refine s_iconst (v := 0) kx_196_311 (by decide) ?_
                            have hk739 : M730 63 9 = v726 := ((u730.2 63 9 (by omega)).trans v726e)
                            exact s_iret kx_196_312 (Or.inr ⟨kq_196, by omega⟩) ⟨_, _, rfl, rfl, hI730, hFm730, ⟨by omega, by omega, (LXp.up v721p.1 u730 (Or.inl (by decide))), (by omega), (by omega), (Or.inr ⟨by omega, Or.inr ⟨rfl, PI.to7 hpp (by omega)⟩⟩)⟩⟩
                        · refine s_bipush (v := 6) kx_196_283 (by decide) ?_
                          refine s_goto (t := 289) kx_196_285 (by decide) ?_
                          refine s_callV2 (k := 63) (s1 := 2) (s2 := 0) (as := [(0, 6)]) (rest := []) kx_196_289 kp_196_367 (Or.inl rfl) rfl (tk_63 hT) ki_194 kcl_194 rfl rfl (by decide) (m_194 (d := d) (kind := 6) hT hI711 (LXp.fr (LXp.fr (show LXp M651 from v650p.2) fr659 rfl) fr711 rfl) (PI.fr (PI.fr (PI.fr hP506 fr651 rfl) fr659 rfl) fr711 rfl) (B0.fr (B0.fr (B0.fr hB505 fr651 rfl (fun _ => rfl)) fr659 rfl (fun _ => rfl)) fr711 rfl (fun _ => rfl)) (by omega)) (kV (fun M741 hI741 fr741 v740p => ?_))
                          have hFm741 := hFm711.call fr741 rfl
                          have tr742 := (fr741 63 35 rfl)
                          have tr743 := (fr741 63 45 rfl)
                          have tr744 := rg_63_9 hI741
                          refine s_aload_n kx_196_292 rfl ?_
                          refine r_getI (k := 63) (f := 9) kx_196_293 kp_196_39 (tk_63 hT) kf_12_9 (fun _ => rfl) (rg_63_9 hI741) (fun v745 v745e v745a v745b => ?_)
                          refine s_if_ne (t := 311) kx_196_296 (by decide) (fun hc746 => ?_) (fun hc746 => ?_)
                          · refine s_iconst (v := 0) kx_196_311 (by decide) ?_
                            have hk747 : M741 63 9 = v745 := v745e
                            exact s_iret kx_196_312 (Or.inr ⟨kq_196, by omega⟩) ⟨_, _, rfl, rfl, hI741, hFm741, ⟨by omega, by omega, v740p.1, (by omega), (by omega), (Or.inl (by omega))⟩⟩
                          · refine s_aload_n kx_196_299 rfl ?_
                            refine r_getR (k := 63) (f := 40) (k2 := 88) kx_196_300 kp_196_134 (tk_63 hT) kf_12_40 (by decide) (rq_63_40 hI741) ?_
                            refine s_aload_n kx_196_303 rfl ?_
                            refine r_getI (k := 63) (f := 42) kx_196_304 kp_196_140 (tk_63 hT) kf_12_42 (fun _ => rfl) (rg_63_42 hI741) (fun v748 v748e v748a v748b => ?_)
                            refine s_iconst (v := 1) kx_196_307 (by decide) ?_
                            refine r_sub kx_196_308 ⟨by omega, by omega⟩ ?_
                            refine s_iload_n kx_196_309 rfl ?_
                            refine r_ast (k := 88) kx_196_310 (tk_88 hT) ⟨by omega, by omega⟩ hI741 (ru_88 (by omega) (by omega)) (fun M749 hI749 u749 => ?_)
                            have hFm749 := hFm741.up u749 rfl
                            have tr750 := (u749.2 63 3 (by omega))
                            have tr751 := (u749.2 63 4 (by omega))
                            have tr752 := (u749.2 63 5 (by omega))
                            have tr753 := (u749.2 63 9 (by omega))
                            have tr754 := (u749.2 63 35 (by omega))
                            have tr755 := (u749.2 63 42 (by omega))
                            have tr756 := (u749.2 63 43 (by omega))
                            have tr757 := (u749.2 63 45 (by omega))
                            have hpp := (v740p.2.2.2.resolve_left (by omega)).2.2.2 _ _ (by rw [v748e]; exact u749) (by omega)
                            refine s_iconst (v := 0) kx_196_311 (by decide) ?_
                            have hk758 : M749 63 9 = v745 := ((u749.2 63 9 (by omega)).trans v745e)
                            exact s_iret kx_196_312 (Or.inr ⟨kq_196, by omega⟩) ⟨_, _, rfl, rfl, hI749, hFm749, ⟨by omega, by omega, (LXp.up v740p.1 u749 (Or.inl (by decide))), (by omega), (by omega), (Or.inr ⟨by omega, Or.inr ⟨rfl, PI.to7 hpp (by omega)⟩⟩)⟩⟩
                    refine s_if_eq (t := 232) kx_196_224 (by decide) (fun hc640 => ?_) (fun hc640 => ?_)
                    · have hJ641 : Fr fS_196_j224 M496 M496 := Fr.refl
                      replace v639p := v639p.resolve_left (by omega)
                      refine s_aload_n kx_196_232 rfl ?_
                      refine s_ldc2_w kx_196_233 kp_196_335 ?_
                      refine s_callV2 (k := 63) (s1 := 3) (s2 := 0) (as := [(1, 7168376)]) (rest := []) kx_196_236 kp_196_361 (Or.inl rfl) rfl (tk_63 hT) ki_182 kcl_182 rfl rfl (by decide) (m_182 (d := d + 2) (w := 7168376) hT hI496) (kF (fun v642 v642p => ?_))
                      refine s_if_eq (t := 247) kx_196_239 (by decide) (fun hc643 => ?_) (fun hc643 => ?_)
                      · replace v642p := v642p.resolve_left (by omega)
                        refine s_bipush (v := 23) kx_196_247 (by decide) ?_
                        exact cP.wk (lS1 rfl lS0) (jn646 23 (by omega) (by omega) (by omega))
                      · replace v642p := v642p.resolve_right (by omega)
                        refine s_bipush (v := 16) kx_196_242 (by decide) ?_
                        refine s_goto (t := 249) kx_196_244 (by decide) ?_
                        exact cP.wk (lS1 rfl lS0) (jn646 16 (by omega) (by omega) (by omega))
                    · have hJ644 : Fr fS_196_j224 M496 M496 := Fr.refl
                      replace v639p := v639p.resolve_right (by omega)
                      refine s_bipush (v := 15) kx_196_227 (by decide) ?_
                      refine s_goto (t := 249) kx_196_229 (by decide) ?_
                      exact cP.wk (lS1 rfl lS0) (jn646 15 (by omega) (by omega) (by omega))
                  · replace v637p := v637p.resolve_left (by omega)
                    refine s_aload_n kx_196_207 rfl ?_
                    refine s_ldc2_w kx_196_208 kp_196_323 ?_
                    refine s_callV2 (k := 63) (s1 := 3) (s2 := 0) (as := [(1, 26982)]) (rest := []) kx_196_211 kp_196_361 (Or.inl rfl) rfl (tk_63 hT) ki_182 kcl_182 rfl rfl (by decide) (m_182 (d := d + 2) (w := 26982) hT hI496) (kF (fun v759 v759p => ?_))
                    refine s_if_eq (t := 313) kx_196_214 (by decide) (fun hc760 => ?_) (fun hc760 => ?_)
                    · replace v759p := v759p.resolve_left (by omega)
                      refine s_aload_n kx_196_313 rfl ?_
                      refine r_getI (k := 63) (f := 3) kx_196_314 kp_196_20 (tk_63 hT) kf_12_3 (fun _ => rfl) (rg_63_3 hI496) (fun v761 v761e v761a v761b => ?_)
                      have v761z : M 63 3 = v761 := (((u496.2 63 3 (by omega)).trans (fr2 63 3 rfl))).symm.trans v761e
                      refine s_iconst (v := 2) kx_196_317 (by decide) ?_
                      have jn778 : ∀ (y777 : Int), ((-1) ≤ y777) → (y777 ≤ 6) → ((y777 = -1 ∨ M496 63 3 ≠ 0)) → cP k_P xs Ln (d + 3) 196 411 [(0, rf 63)] [(0, y777)] (T, M496) (qW T M fS_196_m 0 (fun v M1 => 0 ≤ v ∧ v ≤ 1 ∧ (LXp M1 ∧ M 63 4 ≤ M1 63 4 ∧ M 63 9 ≤ M1 63 9 ∧ (OPd M M1 c a v)))) := by
                        intro y777 a779 a780 a781
                        refine s_istore_n kx_196_411 km_196_3 rfl ?_
                        refine s_iload_n kx_196_412 rfl ?_
                        refine s_iconst (v := (-1)) kx_196_413 (by decide) ?_
                        refine s_icmp_ne (t := 426) kx_196_414 (by decide) (fun hc782 => ?_) (fun hc782 => ?_)
                        · refine s_aload_n kx_196_426 rfl ?_
                          refine r_getK (k := 63) (f := 9) kx_196_427 kp_196_39 (tk_63 hT) kf_12_9 (fun _ => rfl) ((u496.2 63 9 (by omega)).trans v11e) ?_
                          refine s_if_le (t := 435) kx_196_430 (by decide) (fun hc783 => ?_) (fun hc783 => absurd hc783 (by omega))
                          refine s_aload_n kx_196_435 rfl ?_
                          refine s_iload_n kx_196_436 rfl ?_
                          refine s_aload_n kx_196_437 rfl ?_
                          refine r_getU (k := 63) (f := 6) kx_196_438 kp_196_29 (tk_63 hT) kf_12_6 (fun _ => rfl) (fun v784 v784e => ?_)
                          have v784z : M 63 6 = v784 := (((u496.2 63 6 (by omega)).trans (fr2 63 6 rfl))).symm.trans v784e
                          refine s_callV2 (k := 63) (s1 := 3) (s2 := 0) (as := [(0, v784), (0, y777)]) (rest := []) kx_196_441 kp_196_352 (Or.inl rfl) rfl (tk_63 hT) ki_189 kcl_189 rfl rfl (by decide) (m_189 (d := d + 2) (sort := y777) (v_ := v784) hT hI496 (by omega) (by omega)) (kV (fun M786 hI786 fr786 v785p => ?_))
                          have hFm786 := hFm496.call fr786 rfl
                          have tr787 := (fr786 63 3 rfl)
                          have tr788 := (fr786 63 4 rfl)
                          have tr789 := (fr786 63 5 rfl)
                          have tr790 := (fr786 63 9 rfl)
                          have tr791 := (fr786 63 42 rfl)
                          have tr792 := (fr786 63 43 rfl)
                          have tr793 := (fr786 63 45 rfl)
                          have tr794 := rg_63_9 hI786
                          have hP795 := PI.codeV hP506 (by omega) (by omega) (by decide) (by decide) fr786 v785p.1 v785p.2.1 v785p.2.2
                          refine s_aload_n kx_196_444 rfl ?_
                          refine s_callV2 (k := 63) (s1 := 1) (s2 := 0) (as := []) (rest := []) kx_196_445 kp_196_286 (Or.inl rfl) rfl (tk_63 hT) ki_180 kcl_180 rfl rfl (by decide) (m_180 (d := d + 1) hT hI786) (kV (fun M797 hI797 fr797 v796p => ?_))
                          have hFm797 := hFm786.call fr797 rfl
                          have tr798 := (fr797 63 9 rfl)
                          have tr799 := (fr797 63 35 rfl)
                          have tr800 := (fr797 63 42 rfl)
                          have tr801 := (fr797 63 43 rfl)
                          have tr802 := (fr797 63 45 rfl)
                          have tr803 := rg_63_9 hI797
                          refine s_iconst (v := 1) kx_196_448 (by decide) ?_
                          have hk804 : M797 63 9 = v11 := ((fr797 63 9 rfl).trans ((fr786 63 9 rfl).trans ((u496.2 63 9 (by omega)).trans v11e)))
                          exact s_iret kx_196_449 (Or.inr ⟨kq_196, by omega⟩) ⟨_, _, rfl, rfl, hI797, hFm797, ⟨by omega, by omega, (show LXp M797 from v796p.2), (by omega), (by omega), (Or.inr ⟨by omega, Or.inl ⟨rfl, (B0.fr (B0.fr hB505 fr786 rfl (fun _ => rfl)) fr797 rfl (fun _ => rfl)), PI.to7 (PI.fr hP795 fr797 rfl) (by omega)⟩⟩)⟩⟩
                        · refine s_aload_n kx_196_417 rfl ?_
                          refine s_iconst (v := 1) kx_196_418 (by decide) ?_
                          refine s_aload_n kx_196_419 rfl ?_
                          refine r_getI (k := 63) (f := 4) kx_196_420 kp_196_23 (tk_63 hT) kf_12_4 (fun _ => rfl) (rg_63_4 hI496) (fun v805 v805e v805a v805b => ?_)
                          have v805z : M 63 4 = v805 := (((u496.2 63 4 (by omega)).trans (fr2 63 4 rfl))).symm.trans v805e
                          refine s_callV2 (k := 63) (s1 := 3) (s2 := 0) (as := [(0, v805), (0, 1)]) (rest := []) kx_196_423 kp_196_263 (Or.inl rfl) rfl (tk_63 hT) ki_176 kcl_176 rfl rfl (by decide) (m_176 (d := d + 2) (kind := 1) (place := v805) hT hI496 (by omega)) (kV (fun M807 hI807 fr807 v806p => ?_))
                          have hFm807 := hFm496.call fr807 rfl
                          have tr808 := (fr807 63 3 rfl)
                          have tr809 := (fr807 63 4 rfl)
                          have tr810 := (fr807 63 5 rfl)
                          have tr811 := (fr807 63 35 rfl)
                          have tr812 := (fr807 63 42 rfl)
                          have tr813 := (fr807 63 43 rfl)
                          have tr814 := (fr807 63 45 rfl)
                          have tr815 := rg_63_9 hI807
                          refine s_aload_n kx_196_426 rfl ?_
                          refine r_getI (k := 63) (f := 9) kx_196_427 kp_196_39 (tk_63 hT) kf_12_9 (fun _ => rfl) (rg_63_9 hI807) (fun v816 v816e v816a v816b => ?_)
                          refine s_if_le (t := 435) kx_196_430 (by decide) (fun hc817 => ?_) (fun hc817 => ?_)
                          · refine s_aload_n kx_196_435 rfl ?_
                            refine s_iload_n kx_196_436 rfl ?_
                            refine s_aload_n kx_196_437 rfl ?_
                            refine r_getU (k := 63) (f := 6) kx_196_438 kp_196_29 (tk_63 hT) kf_12_6 (fun _ => rfl) (fun v818 v818e => ?_)
                            have v818z : M 63 6 = v818 := (((fr807 63 6 rfl).trans ((u496.2 63 6 (by omega)).trans (fr2 63 6 rfl)))).symm.trans v818e
                            refine s_callV2 (k := 63) (s1 := 3) (s2 := 0) (as := [(0, v818), (0, y777)]) (rest := []) kx_196_441 kp_196_352 (Or.inl rfl) rfl (tk_63 hT) ki_189 kcl_189 rfl rfl (by decide) (m_189 (d := d + 2) (sort := y777) (v_ := v818) hT hI807 (by omega) (by omega)) (kV (fun M820 hI820 fr820 v819p => ?_))
                            have hFm820 := hFm807.call fr820 rfl
                            have tr821 := (fr820 63 3 rfl)
                            have tr822 := (fr820 63 4 rfl)
                            have tr823 := (fr820 63 5 rfl)
                            have tr824 := (fr820 63 9 rfl)
                            have tr825 := (fr820 63 42 rfl)
                            have tr826 := (fr820 63 43 rfl)
                            have tr827 := (fr820 63 45 rfl)
                            have tr828 := rg_63_9 hI820
                            have hP829 := PI.codeV (PI.fr hP506 fr807 rfl) (by omega) (by omega) (by decide) (by decide) fr820 v819p.1 v819p.2.1 v819p.2.2
                            refine s_aload_n kx_196_444 rfl ?_
                            refine s_callV2 (k := 63) (s1 := 1) (s2 := 0) (as := []) (rest := []) kx_196_445 kp_196_286 (Or.inl rfl) rfl (tk_63 hT) ki_180 kcl_180 rfl rfl (by decide) (m_180 (d := d + 1) hT hI820) (kV (fun M831 hI831 fr831 v830p => ?_))
                            have hFm831 := hFm820.call fr831 rfl
                            have tr832 := (fr831 63 9 rfl)
                            have tr833 := (fr831 63 35 rfl)
                            have tr834 := (fr831 63 42 rfl)
                            have tr835 := (fr831 63 43 rfl)
                            have tr836 := (fr831 63 45 rfl)
                            have tr837 := rg_63_9 hI831
                            refine s_iconst (v := 1) kx_196_448 (by decide) ?_
                            have hk838 : M831 63 9 = v816 := ((fr831 63 9 rfl).trans ((fr820 63 9 rfl).trans v816e))
                            exact s_iret kx_196_449 (Or.inr ⟨kq_196, by omega⟩) ⟨_, _, rfl, rfl, hI831, hFm831, ⟨by omega, by omega, (show LXp M831 from v830p.2), (by omega), (by omega), (Or.inr ⟨by omega, Or.inl ⟨rfl, (B0.fr (B0.fr (B0.fr hB505 fr807 rfl (fun _ => rfl)) fr820 rfl (fun _ => rfl)) fr831 rfl (fun _ => rfl)), PI.to7 (PI.fr hP829 fr831 rfl) (by omega)⟩⟩)⟩⟩
                          · refine s_iconst (v := 1) kx_196_433 (by decide) ?_
                            have hk839 : M807 63 3 = v761 := ((fr807 63 3 rfl).trans v761e)
                            have hk840 : M807 63 4 = v805 := ((fr807 63 4 rfl).trans v805e)
                            have hk841 : M807 63 9 = v816 := v816e
                            exact s_iret kx_196_434 (Or.inr ⟨kq_196, by omega⟩) ⟨_, _, rfl, rfl, hI807, hFm807, ⟨by omega, by omega, (LXp.fr (LXp.up (LXp.fr hX fr2 rfl) u496 (Or.inl (by decide))) fr807 rfl), (by omega), (by omega), (Or.inl (by omega))⟩⟩
                      refine s_icmp_ne (t := 325) kx_196_318 (by decide) (fun hc762 => ?_) (fun hc762 => ?_)
                      · have hJ763 : Fr fS_196_j318 M496 M496 := Fr.refl
                        refine s_aload_n kx_196_325 rfl ?_
                        refine s_ldc2_w kx_196_326 kp_196_297 ?_
                        refine s_callV2 (k := 63) (s1 := 3) (s2 := 0) (as := [(1, 499850634611)]) (rest := []) kx_196_329 kp_196_361 (Or.inl rfl) rfl (tk_63 hT) ki_182 kcl_182 rfl rfl (by decide) (m_182 (d := d + 2) (w := 499850634611) hT hI496) (kF (fun v764 v764p => ?_))
                        refine s_if_eq (t := 339) kx_196_332 (by decide) (fun hc765 => ?_) (fun hc765 => ?_)
                        · replace v764p := v764p.resolve_left (by omega)
                          refine s_aload_n kx_196_339 rfl ?_
                          refine s_ldc2_w kx_196_340 kp_196_317 ?_
                          refine s_callV2 (k := 63) (s1 := 3) (s2 := 0) (as := [(1, 131277443786868)]) (rest := []) kx_196_343 kp_196_361 (Or.inl rfl) rfl (tk_63 hT) ki_182 kcl_182 rfl rfl (by decide) (m_182 (d := d + 2) (w := 131277443786868) hT hI496) (kF (fun v766 v766p => ?_))
                          refine s_if_eq (t := 353) kx_196_346 (by decide) (fun hc767 => ?_) (fun hc767 => ?_)
                          · replace v766p := v766p.resolve_left (by omega)
                            refine s_aload_n kx_196_353 rfl ?_
                            refine s_ldc2_w kx_196_354 kp_196_301 ?_
                            refine s_callV2 (k := 63) (s1 := 3) (s2 := 0) (as := [(1, 126943973305959)]) (rest := []) kx_196_357 kp_196_361 (Or.inl rfl) rfl (tk_63 hT) ki_182 kcl_182 rfl rfl (by decide) (m_182 (d := d + 2) (w := 126943973305959) hT hI496) (kF (fun v768 v768p => ?_))
                            refine s_if_eq (t := 367) kx_196_360 (by decide) (fun hc769 => ?_) (fun hc769 => ?_)
                            · replace v768p := v768p.resolve_left (by omega)
                              refine s_aload_n kx_196_367 rfl ?_
                              refine s_ldc2_w kx_196_368 kp_196_305 ?_
                              refine s_callV2 (k := 63) (s1 := 3) (s2 := 0) (as := [(1, 2003395685)]) (rest := []) kx_196_371 kp_196_361 (Or.inl rfl) rfl (tk_63 hT) ki_182 kcl_182 rfl rfl (by decide) (m_182 (d := d + 2) (w := 2003395685) hT hI496) (kF (fun v770 v770p => ?_))
                              refine s_if_eq (t := 381) kx_196_374 (by decide) (fun hc771 => ?_) (fun hc771 => ?_)
                              · replace v770p := v770p.resolve_left (by omega)
                                refine s_aload_n kx_196_381 rfl ?_
                                refine s_ldc2_w kx_196_382 kp_196_319 ?_
                                refine s_callV2 (k := 63) (s1 := 3) (s2 := 0) (as := [(1, 427021001579)]) (rest := []) kx_196_385 kp_196_361 (Or.inl rfl) rfl (tk_63 hT) ki_182 kcl_182 rfl rfl (by decide) (m_182 (d := d + 2) (w := 427021001579) hT hI496) (kF (fun v772 v772p => ?_))
                                refine s_if_eq (t := 395) kx_196_388 (by decide) (fun hc773 => ?_) (fun hc773 => ?_)
                                · replace v772p := v772p.resolve_left (by omega)
                                  refine s_aload_n kx_196_395 rfl ?_
                                  refine s_ldc2_w kx_196_396 kp_196_321 ?_
                                  refine s_callV2 (k := 63) (s1 := 3) (s2 := 0) (as := [(1, 7305070)]) (rest := []) kx_196_399 kp_196_361 (Or.inl rfl) rfl (tk_63 hT) ki_182 kcl_182 rfl rfl (by decide) (m_182 (d := d + 2) (w := 7305070) hT hI496) (kF (fun v774 v774p => ?_))
                                  refine s_if_eq (t := 410) kx_196_402 (by decide) (fun hc775 => ?_) (fun hc775 => ?_)
                                  · replace v774p := v774p.resolve_left (by omega)
                                    refine s_iconst (v := (-1)) kx_196_410 (by decide) ?_
                                    exact cP.wk (lS1 rfl lS0) (jn778 (-1) (by omega) (by omega) (by omega))
                                  · replace v774p := v774p.resolve_right (by omega)
                                    refine s_bipush (v := 6) kx_196_405 (by decide) ?_
                                    refine s_goto (t := 411) kx_196_407 (by decide) ?_
                                    exact cP.wk (lS1 rfl lS0) (jn778 6 (by omega) (by omega) (by omega))
                                · replace v772p := v772p.resolve_right (by omega)
                                  refine s_iconst (v := 5) kx_196_391 (by decide) ?_
                                  refine s_goto (t := 411) kx_196_392 (by decide) ?_
                                  exact cP.wk (lS1 rfl lS0) (jn778 5 (by omega) (by omega) (by omega))
                              · replace v770p := v770p.resolve_right (by omega)
                                refine s_iconst (v := 4) kx_196_377 (by decide) ?_
                                refine s_goto (t := 411) kx_196_378 (by decide) ?_
                                exact cP.wk (lS1 rfl lS0) (jn778 4 (by omega) (by omega) (by omega))
                            · replace v768p := v768p.resolve_right (by omega)
                              refine s_iconst (v := 3) kx_196_363 (by decide) ?_
                              refine s_goto (t := 411) kx_196_364 (by decide) ?_
                              exact cP.wk (lS1 rfl lS0) (jn778 3 (by omega) (by omega) (by omega))
                          · replace v766p := v766p.resolve_right (by omega)
                            refine s_iconst (v := 2) kx_196_349 (by decide) ?_
                            refine s_goto (t := 411) kx_196_350 (by decide) ?_
                            exact cP.wk (lS1 rfl lS0) (jn778 2 (by omega) (by omega) (by omega))
                        · replace v764p := v764p.resolve_right (by omega)
                          refine s_iconst (v := 1) kx_196_335 (by decide) ?_
                          refine s_goto (t := 411) kx_196_336 (by decide) ?_
                          exact cP.wk (lS1 rfl lS0) (jn778 1 (by omega) (by omega) (by omega))
                      · have hJ776 : Fr fS_196_j318 M496 M496 := Fr.refl
                        refine s_iconst (v := 0) kx_196_321 (by decide) ?_
                        refine s_goto (t := 411) kx_196_322 (by decide) ?_
                        exact cP.wk (lS1 rfl lS0) (jn778 0 (by omega) (by omega) (by omega))
                    · replace v759p := v759p.resolve_right (by omega)
                      refine s_aload_n kx_196_217 rfl ?_
                      refine s_ldc2_w kx_196_218 kp_196_333 ?_
                      refine s_callV2 (k := 63) (s1 := 3) (s2 := 0) (as := [(1, 7170414)]) (rest := []) kx_196_221 kp_196_361 (Or.inl rfl) rfl (tk_63 hT) ki_182 kcl_182 rfl rfl (by decide) (m_182 (d := d + 2) (w := 7170414) hT hI496) (kF (fun v842 v842p => ?_))
                      have jn849 : ∀ (y848 : Int), (15 ≤ y848) → (y848 ≤ 23) → ((y848 = 15 ∨ y848 = 16 ∨ y848 = 23)) → cP k_P xs Ln (d + 3) 196 249 [(0, rf 63)] [(0, y848)] (T, M496) (qW T M fS_196_m 0 (fun v M1 => 0 ≤ v ∧ v ≤ 1 ∧ (LXp M1 ∧ M 63 4 ≤ M1 63 4 ∧ M 63 9 ≤ M1 63 9 ∧ (OPd M M1 c a v)))) := by
                        intro y848 a850 a851 a852
                        refine s_istore_n kx_196_249 km_196_3 rfl ?_
                        refine s_aload_n kx_196_250 rfl ?_
                        refine s_callV2 (k := 63) (s1 := 1) (s2 := 0) (as := []) (rest := []) kx_196_251 kp_196_286 (Or.inl rfl) rfl (tk_63 hT) ki_180 kcl_180 rfl rfl (by decide) (m_180 (d := d + 1) hT hI496) (kV (fun M854 hI854 fr854 v853p => ?_))
                        have hFm854 := hFm496.call fr854 rfl
                        have tr855 := (fr854 63 9 rfl)
                        have tr856 := (fr854 63 35 rfl)
                        have tr857 := (fr854 63 42 rfl)
                        have tr858 := (fr854 63 43 rfl)
                        have tr859 := (fr854 63 45 rfl)
                        have tr860 := rg_63_9 hI854
                        refine s_aload_n kx_196_254 rfl ?_
                        refine s_callV2 (k := 63) (s1 := 1) (s2 := 0) (as := []) (rest := []) kx_196_255 kp_196_280 (Or.inl rfl) rfl (tk_63 hT) ki_179 kcl_179 rfl rfl (by decide) (m_179 (d := d + 1) hT hI854) (kV (fun M862 hI862 fr862 v861p => ?_))
                        have hFm862 := hFm854.call fr862 rfl
                        have tr863 := (fr862 63 3 rfl)
                        have tr864 := (fr862 63 4 rfl)
                        have tr865 := (fr862 63 5 rfl)
                        have tr866 := (fr862 63 35 rfl)
                        have tr867 := (fr862 63 42 rfl)
                        have tr868 := (fr862 63 43 rfl)
                        have tr869 := (fr862 63 45 rfl)
                        have tr870 := rg_63_9 hI862
                        refine s_aload_n kx_196_258 rfl ?_
                        refine s_bipush (v := 40) kx_196_259 (by decide) ?_
                        refine s_callV2 (k := 63) (s1 := 2) (s2 := 0) (as := [(0, 40)]) (rest := []) kx_196_261 kp_196_283 (Or.inl rfl) rfl (tk_63 hT) ki_181 kcl_181 rfl rfl (by decide) (m_181 (d := d + 2) (c := 40) hT hI862) (kF (fun v871 v871p => ?_))
                        refine s_if_ne (t := 276) kx_196_264 (by decide) (fun hc872 => ?_) (fun hc872 => ?_)
                        · replace v871p := v871p.resolve_right (by omega)
                          refine s_aload_n kx_196_276 rfl ?_
                          refine s_iload_n kx_196_277 rfl ?_
                          refine s_bipush (v := 23) kx_196_278 (by decide) ?_
                          refine s_icmp_ne (t := 288) kx_196_280 (by decide) (fun hc873 => ?_) (fun hc873 => ?_)
                          · refine s_iconst (v := 3) kx_196_288 (by decide) ?_
                            refine s_callV2 (k := 63) (s1 := 2) (s2 := 0) (as := [(0, 3)]) (rest := []) kx_196_289 kp_196_367 (Or.inl rfl) rfl (tk_63 hT) ki_194 kcl_194 rfl rfl (by decide) (m_194 (d := d) (kind := 3) hT hI862 (LXp.fr (show LXp M854 from v853p.2) fr862 rfl) (PI.fr (PI.fr hP506 fr854 rfl) fr862 rfl) (B0.fr (B0.fr hB505 fr854 rfl (fun _ => rfl)) fr862 rfl (fun _ => rfl)) (by omega)) (kV (fun M875 hI875 fr875 v874p => ?_))
                            have hFm875 := hFm862.call fr875 rfl
                            have tr876 := (fr875 63 35 rfl)
                            have tr877 := (fr875 63 45 rfl)
                            have tr878 := rg_63_9 hI875
                            refine s_aload_n kx_196_292 rfl ?_
                            refine r_getI (k := 63) (f := 9) kx_196_293 kp_196_39 (tk_63 hT) kf_12_9 (fun _ => rfl) (rg_63_9 hI875) (fun v879 v879e v879a v879b => ?_)
                            refine s_if_ne (t := 311) kx_196_296 (by decide) (fun hc880 => ?_) (fun hc880 => ?_)
                            · refine s_iconst (v := 0) kx_196_311 (by decide) ?_
                              have hk881 : M875 63 9 = v879 := v879e
                              exact s_iret kx_196_312 (Or.inr ⟨kq_196, by omega⟩) ⟨_, _, rfl, rfl, hI875, hFm875, ⟨by omega, by omega, v874p.1, (by omega), (by omega), (Or.inl (by omega))⟩⟩
                            · refine s_aload_n kx_196_299 rfl ?_
                              refine r_getR (k := 63) (f := 40) (k2 := 88) kx_196_300 kp_196_134 (tk_63 hT) kf_12_40 (by decide) (rq_63_40 hI875) ?_
                              refine s_aload_n kx_196_303 rfl ?_
                              refine r_getI (k := 63) (f := 42) kx_196_304 kp_196_140 (tk_63 hT) kf_12_42 (fun _ => rfl) (rg_63_42 hI875) (fun v882 v882e v882a v882b => ?_)
                              refine s_iconst (v := 1) kx_196_307 (by decide) ?_
                              refine r_sub kx_196_308 ⟨by omega, by omega⟩ ?_
                              refine s_iload_n kx_196_309 rfl ?_
                              refine r_ast (k := 88) kx_196_310 (tk_88 hT) ⟨by omega, by omega⟩ hI875 (ru_88 (by omega) (by omega)) (fun M883 hI883 u883 => ?_)
                              have hFm883 := hFm875.up u883 rfl
                              have tr884 := (u883.2 63 3 (by omega))
                              have tr885 := (u883.2 63 4 (by omega))
                              have tr886 := (u883.2 63 5 (by omega))
                              have tr887 := (u883.2 63 9 (by omega))
                              have tr888 := (u883.2 63 35 (by omega))
                              have tr889 := (u883.2 63 42 (by omega))
                              have tr890 := (u883.2 63 43 (by omega))
                              have tr891 := (u883.2 63 45 (by omega))
                              have hpp := (v874p.2.2.2.resolve_left (by omega)).2.2.2 _ _ (by rw [v882e]; exact u883) (by omega)
                              refine s_iconst (v := 0) kx_196_311 (by decide) ?_
                              have hk892 : M883 63 9 = v879 := ((u883.2 63 9 (by omega)).trans v879e)
                              exact s_iret kx_196_312 (Or.inr ⟨kq_196, by omega⟩) ⟨_, _, rfl, rfl, hI883, hFm883, ⟨by omega, by omega, (LXp.up v874p.1 u883 (Or.inl (by decide))), (by omega), (by omega), (Or.inr ⟨by omega, Or.inr ⟨rfl, PI.to7 hpp (by omega)⟩⟩)⟩⟩
                          · refine s_bipush (v := 6) kx_196_283 (by decide) ?_
                            refine s_goto (t := 289) kx_196_285 (by decide) ?_
                            refine s_callV2 (k := 63) (s1 := 2) (s2 := 0) (as := [(0, 6)]) (rest := []) kx_196_289 kp_196_367 (Or.inl rfl) rfl (tk_63 hT) ki_194 kcl_194 rfl rfl (by decide) (m_194 (d := d) (kind := 6) hT hI862 (LXp.fr (show LXp M854 from v853p.2) fr862 rfl) (PI.fr (PI.fr hP506 fr854 rfl) fr862 rfl) (B0.fr (B0.fr hB505 fr854 rfl (fun _ => rfl)) fr862 rfl (fun _ => rfl)) (by omega)) (kV (fun M894 hI894 fr894 v893p => ?_))
                            have hFm894 := hFm862.call fr894 rfl
                            have tr895 := (fr894 63 35 rfl)
                            have tr896 := (fr894 63 45 rfl)
                            have tr897 := rg_63_9 hI894
                            refine s_aload_n kx_196_292 rfl ?_
                            refine r_getI (k := 63) (f := 9) kx_196_293 kp_196_39 (tk_63 hT) kf_12_9 (fun _ => rfl) (rg_63_9 hI894) (fun v898 v898e v898a v898b => ?_)
                            refine s_if_ne (t := 311) kx_196_296 (by decide) (fun hc899 => ?_) (fun hc899 => ?_)
                            · refine s_iconst (v := 0) kx_196_311 (by decide) ?_
                              have hk900 : M894 63 9 = v898 := v898e
                              exact s_iret kx_196_312 (Or.inr ⟨kq_196, by omega⟩) ⟨_, _, rfl, rfl, hI894, hFm894, ⟨by omega, by omega, v893p.1, (by omega), (by omega), (Or.inl (by omega))⟩⟩
                            · refine s_aload_n kx_196_299 rfl ?_
                              refine r_getR (k := 63) (f := 40) (k2 := 88) kx_196_300 kp_196_134 (tk_63 hT) kf_12_40 (by decide) (rq_63_40 hI894) ?_
                              refine s_aload_n kx_196_303 rfl ?_
                              refine r_getI (k := 63) (f := 42) kx_196_304 kp_196_140 (tk_63 hT) kf_12_42 (fun _ => rfl) (rg_63_42 hI894) (fun v901 v901e v901a v901b => ?_)
                              refine s_iconst (v := 1) kx_196_307 (by decide) ?_
                              refine r_sub kx_196_308 ⟨by omega, by omega⟩ ?_
                              refine s_iload_n kx_196_309 rfl ?_
                              refine r_ast (k := 88) kx_196_310 (tk_88 hT) ⟨by omega, by omega⟩ hI894 (ru_88 (by omega) (by omega)) (fun M902 hI902 u902 => ?_)
                              have hFm902 := hFm894.up u902 rfl
                              have tr903 := (u902.2 63 3 (by omega))
                              have tr904 := (u902.2 63 4 (by omega))
                              have tr905 := (u902.2 63 5 (by omega))
                              have tr906 := (u902.2 63 9 (by omega))
                              have tr907 := (u902.2 63 35 (by omega))
                              have tr908 := (u902.2 63 42 (by omega))
                              have tr909 := (u902.2 63 43 (by omega))
                              have tr910 := (u902.2 63 45 (by omega))
                              have hpp := (v893p.2.2.2.resolve_left (by omega)).2.2.2 _ _ (by rw [v901e]; exact u902) (by omega)
                              refine s_iconst (v := 0) kx_196_311 (by decide) ?_
                              have hk911 : M902 63 9 = v898 := ((u902.2 63 9 (by omega)).trans v898e)
                              exact s_iret kx_196_312 (Or.inr ⟨kq_196, by omega⟩) ⟨_, _, rfl, rfl, hI902, hFm902, ⟨by omega, by omega, (LXp.up v893p.1 u902 (Or.inl (by decide))), (by omega), (by omega), (Or.inr ⟨by omega, Or.inr ⟨rfl, PI.to7 hpp (by omega)⟩⟩)⟩⟩
                        · replace v871p := v871p.resolve_left (by omega)
                          refine s_aload_n kx_196_267 rfl ?_
                          refine s_iconst (v := 1) kx_196_268 (by decide) ?_
                          refine s_aload_n kx_196_269 rfl ?_
                          refine r_getI (k := 63) (f := 4) kx_196_270 kp_196_23 (tk_63 hT) kf_12_4 (fun _ => rfl) (rg_63_4 hI862) (fun v912 v912e v912a v912b => ?_)
                          refine s_callV2 (k := 63) (s1 := 3) (s2 := 0) (as := [(0, v912), (0, 1)]) (rest := []) kx_196_273 kp_196_263 (Or.inl rfl) rfl (tk_63 hT) ki_176 kcl_176 rfl rfl (by decide) (m_176 (d := d + 2) (kind := 1) (place := v912) hT hI862 (by omega)) (kV (fun M914 hI914 fr914 v913p => ?_))
                          have hFm914 := hFm862.call fr914 rfl
                          have tr915 := (fr914 63 3 rfl)
                          have tr916 := (fr914 63 4 rfl)
                          have tr917 := (fr914 63 5 rfl)
                          have tr918 := (fr914 63 35 rfl)
                          have tr919 := (fr914 63 42 rfl)
                          have tr920 := (fr914 63 43 rfl)
                          have tr921 := (fr914 63 45 rfl)
                          have tr922 := rg_63_9 hI914
                          refine s_aload_n kx_196_276 rfl ?_
                          refine s_iload_n kx_196_277 rfl ?_
                          refine s_bipush (v := 23) kx_196_278 (by decide) ?_
                          refine s_icmp_ne (t := 288) kx_196_280 (by decide) (fun hc923 => ?_) (fun hc923 => ?_)
                          · refine s_iconst (v := 3) kx_196_288 (by decide) ?_
                            refine s_callV2 (k := 63) (s1 := 2) (s2 := 0) (as := [(0, 3)]) (rest := []) kx_196_289 kp_196_367 (Or.inl rfl) rfl (tk_63 hT) ki_194 kcl_194 rfl rfl (by decide) (m_194 (d := d) (kind := 3) hT hI914 (LXp.fr (LXp.fr (show LXp M854 from v853p.2) fr862 rfl) fr914 rfl) (PI.fr (PI.fr (PI.fr hP506 fr854 rfl) fr862 rfl) fr914 rfl) (B0.fr (B0.fr (B0.fr hB505 fr854 rfl (fun _ => rfl)) fr862 rfl (fun _ => rfl)) fr914 rfl (fun _ => rfl)) (by omega)) (kV (fun M925 hI925 fr925 v924p => ?_))
                            have hFm925 := hFm914.call fr925 rfl
                            have tr926 := (fr925 63 35 rfl)
                            have tr927 := (fr925 63 45 rfl)
                            have tr928 := rg_63_9 hI925
                            refine s_aload_n kx_196_292 rfl ?_
                            refine r_getI (k := 63) (f := 9) kx_196_293 kp_196_39 (tk_63 hT) kf_12_9 (fun _ => rfl) (rg_63_9 hI925) (fun v929 v929e v929a v929b => ?_)
                            refine s_if_ne (t := 311) kx_196_296 (by decide) (fun hc930 => ?_) (fun hc930 => ?_)
                            · refine s_iconst (v := 0) kx_196_311 (by decide) ?_
                              have hk931 : M925 63 9 = v929 := v929e
                              exact s_iret kx_196_312 (Or.inr ⟨kq_196, by omega⟩) ⟨_, _, rfl, rfl, hI925, hFm925, ⟨by omega, by omega, v924p.1, (by omega), (by omega), (Or.inl (by omega))⟩⟩
                            · refine s_aload_n kx_196_299 rfl ?_
                              refine r_getR (k := 63) (f := 40) (k2 := 88) kx_196_300 kp_196_134 (tk_63 hT) kf_12_40 (by decide) (rq_63_40 hI925) ?_
                              refine s_aload_n kx_196_303 rfl ?_
                              refine r_getI (k := 63) (f := 42) kx_196_304 kp_196_140 (tk_63 hT) kf_12_42 (fun _ => rfl) (rg_63_42 hI925) (fun v932 v932e v932a v932b => ?_)
                              refine s_iconst (v := 1) kx_196_307 (by decide) ?_
                              refine r_sub kx_196_308 ⟨by omega, by omega⟩ ?_
                              refine s_iload_n kx_196_309 rfl ?_
                              refine r_ast (k := 88) kx_196_310 (tk_88 hT) ⟨by omega, by omega⟩ hI925 (ru_88 (by omega) (by omega)) (fun M933 hI933 u933 => ?_)
                              have hFm933 := hFm925.up u933 rfl
                              have tr934 := (u933.2 63 3 (by omega))
                              have tr935 := (u933.2 63 4 (by omega))
                              have tr936 := (u933.2 63 5 (by omega))
                              have tr937 := (u933.2 63 9 (by omega))
                              have tr938 := (u933.2 63 35 (by omega))
                              have tr939 := (u933.2 63 42 (by omega))
                              have tr940 := (u933.2 63 43 (by omega))
                              have tr941 := (u933.2 63 45 (by omega))
                              have hpp := (v924p.2.2.2.resolve_left (by omega)).2.2.2 _ _ (by rw [v932e]; exact u933) (by omega)
                              refine s_iconst (v := 0) kx_196_311 (by decide) ?_
                              have hk942 : M933 63 9 = v929 := ((u933.2 63 9 (by omega)).trans v929e)
                              exact s_iret kx_196_312 (Or.inr ⟨kq_196, by omega⟩) ⟨_, _, rfl, rfl, hI933, hFm933, ⟨by omega, by omega, (LXp.up v924p.1 u933 (Or.inl (by decide))), (by omega), (by omega), (Or.inr ⟨by omega, Or.inr ⟨rfl, PI.to7 hpp (by omega)⟩⟩)⟩⟩
                          · refine s_bipush (v := 6) kx_196_283 (by decide) ?_
                            refine s_goto (t := 289) kx_196_285 (by decide) ?_
                            refine s_callV2 (k := 63) (s1 := 2) (s2 := 0) (as := [(0, 6)]) (rest := []) kx_196_289 kp_196_367 (Or.inl rfl) rfl (tk_63 hT) ki_194 kcl_194 rfl rfl (by decide) (m_194 (d := d) (kind := 6) hT hI914 (LXp.fr (LXp.fr (show LXp M854 from v853p.2) fr862 rfl) fr914 rfl) (PI.fr (PI.fr (PI.fr hP506 fr854 rfl) fr862 rfl) fr914 rfl) (B0.fr (B0.fr (B0.fr hB505 fr854 rfl (fun _ => rfl)) fr862 rfl (fun _ => rfl)) fr914 rfl (fun _ => rfl)) (by omega)) (kV (fun M944 hI944 fr944 v943p => ?_))
                            have hFm944 := hFm914.call fr944 rfl
                            have tr945 := (fr944 63 35 rfl)
                            have tr946 := (fr944 63 45 rfl)
                            have tr947 := rg_63_9 hI944
                            refine s_aload_n kx_196_292 rfl ?_
                            refine r_getI (k := 63) (f := 9) kx_196_293 kp_196_39 (tk_63 hT) kf_12_9 (fun _ => rfl) (rg_63_9 hI944) (fun v948 v948e v948a v948b => ?_)
                            refine s_if_ne (t := 311) kx_196_296 (by decide) (fun hc949 => ?_) (fun hc949 => ?_)
                            · refine s_iconst (v := 0) kx_196_311 (by decide) ?_
                              have hk950 : M944 63 9 = v948 := v948e
                              exact s_iret kx_196_312 (Or.inr ⟨kq_196, by omega⟩) ⟨_, _, rfl, rfl, hI944, hFm944, ⟨by omega, by omega, v943p.1, (by omega), (by omega), (Or.inl (by omega))⟩⟩
                            · refine s_aload_n kx_196_299 rfl ?_
                              refine r_getR (k := 63) (f := 40) (k2 := 88) kx_196_300 kp_196_134 (tk_63 hT) kf_12_40 (by decide) (rq_63_40 hI944) ?_
                              refine s_aload_n kx_196_303 rfl ?_
                              refine r_getI (k := 63) (f := 42) kx_196_304 kp_196_140 (tk_63 hT) kf_12_42 (fun _ => rfl) (rg_63_42 hI944) (fun v951 v951e v951a v951b => ?_)
                              refine s_iconst (v := 1) kx_196_307 (by decide) ?_
                              refine r_sub kx_196_308 ⟨by omega, by omega⟩ ?_
                              refine s_iload_n kx_196_309 rfl ?_
                              refine r_ast (k := 88) kx_196_310 (tk_88 hT) ⟨by omega, by omega⟩ hI944 (ru_88 (by omega) (by omega)) (fun M952 hI952 u952 => ?_)
                              have hFm952 := hFm944.up u952 rfl
                              have tr953 := (u952.2 63 3 (by omega))
                              have tr954 := (u952.2 63 4 (by omega))
                              have tr955 := (u952.2 63 5 (by omega))
                              have tr956 := (u952.2 63 9 (by omega))
                              have tr957 := (u952.2 63 35 (by omega))
                              have tr958 := (u952.2 63 42 (by omega))
                              have tr959 := (u952.2 63 43 (by omega))
                              have tr960 := (u952.2 63 45 (by omega))
                              have hpp := (v943p.2.2.2.resolve_left (by omega)).2.2.2 _ _ (by rw [v951e]; exact u952) (by omega)
                              refine s_iconst (v := 0) kx_196_311 (by decide) ?_
                              have hk961 : M952 63 9 = v948 := ((u952.2 63 9 (by omega)).trans v948e)
                              exact s_iret kx_196_312 (Or.inr ⟨kq_196, by omega⟩) ⟨_, _, rfl, rfl, hI952, hFm952, ⟨by omega, by omega, (LXp.up v943p.1 u952 (Or.inl (by decide))), (by omega), (by omega), (Or.inr ⟨by omega, Or.inr ⟨rfl, PI.to7 hpp (by omega)⟩⟩)⟩⟩
                      refine s_if_eq (t := 232) kx_196_224 (by decide) (fun hc843 => ?_) (fun hc843 => ?_)
                      · have hJ844 : Fr fS_196_j224 M496 M496 := Fr.refl
                        replace v842p := v842p.resolve_left (by omega)
                        refine s_aload_n kx_196_232 rfl ?_
                        refine s_ldc2_w kx_196_233 kp_196_335 ?_
                        refine s_callV2 (k := 63) (s1 := 3) (s2 := 0) (as := [(1, 7168376)]) (rest := []) kx_196_236 kp_196_361 (Or.inl rfl) rfl (tk_63 hT) ki_182 kcl_182 rfl rfl (by decide) (m_182 (d := d + 2) (w := 7168376) hT hI496) (kF (fun v845 v845p => ?_))
                        refine s_if_eq (t := 247) kx_196_239 (by decide) (fun hc846 => ?_) (fun hc846 => ?_)
                        · replace v845p := v845p.resolve_left (by omega)
                          refine s_bipush (v := 23) kx_196_247 (by decide) ?_
                          exact cP.wk (lS1 rfl lS0) (jn849 23 (by omega) (by omega) (by omega))
                        · replace v845p := v845p.resolve_right (by omega)
                          refine s_bipush (v := 16) kx_196_242 (by decide) ?_
                          refine s_goto (t := 249) kx_196_244 (by decide) ?_
                          exact cP.wk (lS1 rfl lS0) (jn849 16 (by omega) (by omega) (by omega))
                      · have hJ847 : Fr fS_196_j224 M496 M496 := Fr.refl
                        replace v842p := v842p.resolve_right (by omega)
                        refine s_bipush (v := 15) kx_196_227 (by decide) ?_
                        refine s_goto (t := 249) kx_196_229 (by decide) ?_
                        exact cP.wk (lS1 rfl lS0) (jn849 15 (by omega) (by omega) (by omega))
              · replace v513p := v513p.resolve_right (by omega)
                refine s_aload_n kx_196_180 rfl ?_
                refine s_iconst (v := 2) kx_196_181 (by decide) ?_
                refine s_callV2 (k := 63) (s1 := 2) (s2 := 0) (as := [(0, 2)]) (rest := []) kx_196_182 kp_196_367 (Or.inl rfl) rfl (tk_63 hT) ki_194 kcl_194 rfl rfl (by decide) (m_194 (d := d) (kind := 2) hT hI496 (LXp.up (LXp.fr hX fr2 rfl) u496 (Or.inl (by decide))) hP506 hB505 (by omega)) (kV (fun M963 hI963 fr963 v962p => ?_))
                have hFm963 := hFm496.call fr963 rfl
                have tr964 := (fr963 63 35 rfl)
                have tr965 := (fr963 63 45 rfl)
                have tr966 := rg_63_9 hI963
                refine s_iconst (v := 0) kx_196_185 (by decide) ?_
                exact s_iret kx_196_186 (Or.inr ⟨kq_196, by omega⟩) ⟨_, _, rfl, rfl, hI963, hFm963, ⟨by omega, by omega, v962p.1, (by omega), (by omega), (v962p.2.2.2.imp id (fun z => ⟨by omega, Or.inr ⟨rfl, PI.to7 (PQ.id z.2.2.2 (by decide)) (by omega)⟩⟩))⟩⟩
            · replace v511p := v511p.resolve_right (by omega)
              refine s_aload_n kx_196_151 rfl ?_
              refine s_bipush (v := 9) kx_196_152 (by decide) ?_
              refine s_iconst (v := 0) kx_196_154 (by decide) ?_
              refine s_callV2 (k := 63) (s1 := 3) (s2 := 0) (as := [(0, 0), (0, 9)]) (rest := []) kx_196_155 kp_196_352 (Or.inl rfl) rfl (tk_63 hT) ki_189 kcl_189 rfl rfl (by decide) (m_189 (d := d + 2) (sort := 9) (v_ := 0) hT hI496 (by omega) (by omega)) (kV (fun M968 hI968 fr968 v967p => ?_))
              have hFm968 := hFm496.call fr968 rfl
              have tr969 := (fr968 63 3 rfl)
              have tr970 := (fr968 63 4 rfl)
              have tr971 := (fr968 63 5 rfl)
              have tr972 := (fr968 63 9 rfl)
              have tr973 := (fr968 63 42 rfl)
              have tr974 := (fr968 63 43 rfl)
              have tr975 := (fr968 63 45 rfl)
              have tr976 := rg_63_9 hI968
              have hP977 := PI.codeV hP506 (by omega) (by omega) (by decide) (by decide) fr968 v967p.1 v967p.2.1 v967p.2.2
              refine s_aload_n kx_196_158 rfl ?_
              refine r_getR (k := 63) (f := 38) (k2 := 86) kx_196_159 kp_196_127 (tk_63 hT) kf_12_38 (by decide) (rq_63_38 hI968) ?_
              refine s_iload_n kx_196_162 rfl ?_
              refine s_iconst (v := 2) kx_196_163 (by decide) ?_
              refine r_ast (k := 86) kx_196_164 (tk_86 hT) ⟨by omega, by omega⟩ hI968 (ru_86 (by omega) (by omega)) (fun M978 hI978 u978 => ?_)
              have hFm978 := hFm968.up u978 rfl
              have tr979 := (u978.2 63 3 (by omega))
              have tr980 := (u978.2 63 4 (by omega))
              have tr981 := (u978.2 63 5 (by omega))
              have tr982 := (u978.2 63 9 (by omega))
              have tr983 := (u978.2 63 35 (by omega))
              have tr984 := (u978.2 63 42 (by omega))
              have tr985 := (u978.2 63 43 (by omega))
              have tr986 := (u978.2 63 45 (by omega))
              refine s_aload_n kx_196_165 rfl ?_
              refine s_callV2 (k := 63) (s1 := 1) (s2 := 0) (as := []) (rest := []) kx_196_166 kp_196_286 (Or.inl rfl) rfl (tk_63 hT) ki_180 kcl_180 rfl rfl (by decide) (m_180 (d := d + 1) hT hI978) (kV (fun M988 hI988 fr988 v987p => ?_))
              have hFm988 := hFm978.call fr988 rfl
              have tr989 := (fr988 63 9 rfl)
              have tr990 := (fr988 63 35 rfl)
              have tr991 := (fr988 63 42 rfl)
              have tr992 := (fr988 63 43 rfl)
              have tr993 := (fr988 63 45 rfl)
              have tr994 := rg_63_9 hI988
              refine s_iconst (v := 1) kx_196_169 (by decide) ?_
              have hk995 : M988 63 9 = v11 := ((fr988 63 9 rfl).trans ((u978.2 63 9 (by omega)).trans ((fr968 63 9 rfl).trans ((u496.2 63 9 (by omega)).trans v11e))))
              exact s_iret kx_196_170 (Or.inr ⟨kq_196, by omega⟩) ⟨_, _, rfl, rfl, hI988, hFm988, ⟨by omega, by omega, (show LXp M988 from v987p.2), (by omega), (by omega), (Or.inr ⟨by omega, Or.inl ⟨rfl, (B0.fr (B0.up (B0.fr hB505 fr968 rfl (fun _ => rfl)) u978 ⟨by decide, Or.inl (by decide)⟩) fr988 rfl (fun _ => rfl)), PI.to7 (PI.fr (PI.phase hP977 (Or.inl (by decide)) (by omega) u978) fr988 rfl) (by omega)⟩⟩)⟩⟩
          · replace v508p := v508p.resolve_right (by omega)
            refine s_aload_n kx_196_130 rfl ?_
            refine s_iconst (v := 5) kx_196_131 (by decide) ?_
            refine s_callV2 (k := 63) (s1 := 2) (s2 := 0) (as := [(0, 5)]) (rest := []) kx_196_132 kp_196_367 (Or.inl rfl) rfl (tk_63 hT) ki_194 kcl_194 rfl rfl (by decide) (m_194 (d := d) (kind := 5) hT hI496 (LXp.up (LXp.fr hX fr2 rfl) u496 (Or.inl (by decide))) hP506 hB505 (by omega)) (kV (fun M997 hI997 fr997 v996p => ?_))
            have hFm997 := hFm496.call fr997 rfl
            have tr998 := (fr997 63 35 rfl)
            have tr999 := (fr997 63 45 rfl)
            have tr1000 := rg_63_9 hI997
            refine s_iconst (v := 0) kx_196_135 (by decide) ?_
            exact s_iret kx_196_136 (Or.inr ⟨kq_196, by omega⟩) ⟨_, _, rfl, rfl, hI997, hFm997, ⟨by omega, by omega, v996p.1, (by omega), (by omega), (v996p.2.2.2.imp id (fun z => ⟨by omega, Or.inr ⟨rfl, PI.to7 (PQ.id z.2.2.2 (by decide)) (by omega)⟩⟩))⟩⟩
        · replace v494p := v494p.resolve_right (by omega)
          have hb11001 : M2 87 ((v13 - 1)).toNat = 1 := by omega
          refine s_aload_n kx_196_61 rfl ?_
          refine r_getI (k := 63) (f := 43) kx_196_62 kp_196_143 (tk_63 hT) kf_12_43 (fun _ => rfl) (rg_63_43 hI2) (fun v1002 v1002e v1002a v1002b => ?_)
          have v1002z : M 63 43 = v1002 := ((fr2 63 43 rfl)).symm.trans v1002e
          refine s_bipush (v := 7) kx_196_65 (by decide) ?_
          refine s_icmp_ne (t := 79) kx_196_67 (by decide) (fun hc1003 => ?_) (fun hc1003 => ?_)
          · refine s_aload_n kx_196_79 rfl ?_
            refine r_getK (k := 63) (f := 9) kx_196_80 kp_196_39 (tk_63 hT) kf_12_9 (fun _ => rfl) v11e ?_
            refine s_if_le (t := 88) kx_196_83 (by decide) (fun hc1004 => ?_) (fun hc1004 => absurd hc1004 (by omega))
            refine s_aload_n kx_196_88 rfl ?_
            refine s_dup kx_196_89 rfl ?_
            refine r_getK (k := 63) (f := 43) kx_196_90 kp_196_143 (tk_63 hT) kf_12_43 (fun _ => rfl) v1002e ?_
            refine s_iconst (v := 1) kx_196_93 (by decide) ?_
            refine r_add kx_196_94 ⟨by omega, by omega⟩ ?_
            refine r_put (k := 63) (f := 43) kx_196_95 kp_196_143 (tk_63 hT) kf_12_43 rfl (by decide) (by decide) hI2 (ru_63_43 (by omega) (by omega)) (fun M1005 hI1005 u1005 => ?_)
            have hFm1005 := hFm2.up u1005 rfl
            have tr1006 := (u1005.2 63 3 (by omega))
            have tr1007 := (u1005.2 63 4 (by omega))
            have tr1008 := (u1005.2 63 5 (by omega))
            have tr1009 := (u1005.2 63 9 (by omega))
            have tr1010 := (u1005.2 63 35 (by omega))
            have tr1011 := (u1005.2 63 42 (by omega))
            have tr1012 := u1005.1
            have tr1013 := (u1005.2 63 45 (by omega))
            have hP1014 := (PI.opn (e' := 1) (PI.fr hP fr2 rfl) u1005 (by omega))
            refine s_aload_n kx_196_98 rfl ?_
            refine s_bipush (v := 22) kx_196_99 (by decide) ?_
            refine s_callV2 (k := 63) (s1 := 2) (s2 := 0) (as := [(0, 22)]) (rest := []) kx_196_101 kp_196_364 (Or.inl rfl) rfl (tk_63 hT) ki_192 kcl_192 rfl rfl (by decide) (m_192 (d := d + 2) (op := 22) hT hI1005 (by omega) (by omega)) (kV (fun M1016 hI1016 fr1016 v1015p => ?_))
            have hFm1016 := hFm1005.call fr1016 rfl
            have tr1017 := (fr1016 63 3 rfl)
            have tr1018 := (fr1016 63 4 rfl)
            have tr1019 := (fr1016 63 5 rfl)
            have tr1020 := (fr1016 63 9 rfl)
            have tr1021 := (fr1016 63 35 rfl)
            have tr1022 := (fr1016 63 42 rfl)
            have tr1023 := (fr1016 63 43 rfl)
            have tr1024 := rg_63_9 hI1016
            have hP1025 := PI.holdN hP1014 (f := (v13 - 1)) (by omega) ((u1005.2 87 _ (by omega)).trans hb11001) fr1016 v1015p.1 v1015p.2.1 v1015p.2.2
            refine s_aload_n kx_196_104 rfl ?_
            refine s_callV2 (k := 63) (s1 := 1) (s2 := 0) (as := []) (rest := []) kx_196_105 kp_196_286 (Or.inl rfl) rfl (tk_63 hT) ki_180 kcl_180 rfl rfl (by decide) (m_180 (d := d + 1) hT hI1016) (kV (fun M1027 hI1027 fr1027 v1026p => ?_))
            have hFm1027 := hFm1016.call fr1027 rfl
            have tr1028 := (fr1027 63 9 rfl)
            have tr1029 := (fr1027 63 35 rfl)
            have tr1030 := (fr1027 63 42 rfl)
            have tr1031 := (fr1027 63 43 rfl)
            have tr1032 := (fr1027 63 45 rfl)
            have tr1033 := rg_63_9 hI1027
            refine s_iconst (v := 0) kx_196_108 (by decide) ?_
            have hk1034 : M1027 63 9 = v11 := ((fr1027 63 9 rfl).trans ((fr1016 63 9 rfl).trans ((u1005.2 63 9 (by omega)).trans v11e)))
            exact s_iret kx_196_109 (Or.inr ⟨kq_196, by omega⟩) ⟨_, _, rfl, rfl, hI1027, hFm1027, ⟨by omega, by omega, (show LXp M1027 from v1026p.2), (by omega), (by omega), (Or.inr ⟨by omega, Or.inr ⟨rfl, PI.to7 (PI.fr hP1025 fr1027 rfl) (by omega)⟩⟩)⟩⟩
          · refine s_aload_n kx_196_70 rfl ?_
            refine s_iconst (v := 5) kx_196_71 (by decide) ?_
            refine s_aload_n kx_196_72 rfl ?_
            refine r_getI (k := 63) (f := 4) kx_196_73 kp_196_23 (tk_63 hT) kf_12_4 (fun _ => rfl) (rg_63_4 hI2) (fun v1035 v1035e v1035a v1035b => ?_)
            have v1035z : M 63 4 = v1035 := ((fr2 63 4 rfl)).symm.trans v1035e
            refine s_callV2 (k := 63) (s1 := 3) (s2 := 0) (as := [(0, v1035), (0, 5)]) (rest := []) kx_196_76 kp_196_263 (Or.inl rfl) rfl (tk_63 hT) ki_176 kcl_176 rfl rfl (by decide) (m_176 (d := d + 2) (kind := 5) (place := v1035) hT hI2 (by omega)) (kV (fun M1037 hI1037 fr1037 v1036p => ?_))
            have hFm1037 := hFm2.call fr1037 rfl
            have tr1038 := (fr1037 63 3 rfl)
            have tr1039 := (fr1037 63 4 rfl)
            have tr1040 := (fr1037 63 5 rfl)
            have tr1041 := (fr1037 63 35 rfl)
            have tr1042 := (fr1037 63 42 rfl)
            have tr1043 := (fr1037 63 43 rfl)
            have tr1044 := (fr1037 63 45 rfl)
            have tr1045 := rg_63_9 hI1037
            refine s_aload_n kx_196_79 rfl ?_
            refine r_getI (k := 63) (f := 9) kx_196_80 kp_196_39 (tk_63 hT) kf_12_9 (fun _ => rfl) (rg_63_9 hI1037) (fun v1046 v1046e v1046a v1046b => ?_)
            refine s_if_le (t := 88) kx_196_83 (by decide) (fun hc1047 => ?_) (fun hc1047 => ?_)
            · refine s_aload_n kx_196_88 rfl ?_
              refine s_dup kx_196_89 rfl ?_
              refine r_getK (k := 63) (f := 43) kx_196_90 kp_196_143 (tk_63 hT) kf_12_43 (fun _ => rfl) ((fr1037 63 43 rfl).trans v1002e) ?_
              refine s_iconst (v := 1) kx_196_93 (by decide) ?_
              refine r_add kx_196_94 ⟨by omega, by omega⟩ ?_
              refine r_put (k := 63) (f := 43) kx_196_95 kp_196_143 (tk_63 hT) kf_12_43 rfl (by decide) (by decide) hI1037 (ru_63_43 (by omega) (by omega)) (fun M1048 hI1048 u1048 => ?_)
              have hFm1048 := hFm1037.up u1048 rfl
              have tr1049 := (u1048.2 63 3 (by omega))
              have tr1050 := (u1048.2 63 4 (by omega))
              have tr1051 := (u1048.2 63 5 (by omega))
              have tr1052 := (u1048.2 63 9 (by omega))
              have tr1053 := (u1048.2 63 35 (by omega))
              have tr1054 := (u1048.2 63 42 (by omega))
              have tr1055 := u1048.1
              have tr1056 := (u1048.2 63 45 (by omega))
              have hP1057 := (PI.opn (e' := 1) (PI.fr (PI.fr hP fr2 rfl) fr1037 rfl) u1048 (by omega))
              refine s_aload_n kx_196_98 rfl ?_
              refine s_bipush (v := 22) kx_196_99 (by decide) ?_
              refine s_callV2 (k := 63) (s1 := 2) (s2 := 0) (as := [(0, 22)]) (rest := []) kx_196_101 kp_196_364 (Or.inl rfl) rfl (tk_63 hT) ki_192 kcl_192 rfl rfl (by decide) (m_192 (d := d + 2) (op := 22) hT hI1048 (by omega) (by omega)) (kV (fun M1059 hI1059 fr1059 v1058p => ?_))
              have hFm1059 := hFm1048.call fr1059 rfl
              have tr1060 := (fr1059 63 3 rfl)
              have tr1061 := (fr1059 63 4 rfl)
              have tr1062 := (fr1059 63 5 rfl)
              have tr1063 := (fr1059 63 9 rfl)
              have tr1064 := (fr1059 63 35 rfl)
              have tr1065 := (fr1059 63 42 rfl)
              have tr1066 := (fr1059 63 43 rfl)
              have tr1067 := rg_63_9 hI1059
              have hP1068 := PI.holdN hP1057 (f := (v13 - 1)) (by omega) ((u1048.2 87 _ (by omega)).trans ((fr1037 87 _ rfl).trans hb11001)) fr1059 v1058p.1 v1058p.2.1 v1058p.2.2
              refine s_aload_n kx_196_104 rfl ?_
              refine s_callV2 (k := 63) (s1 := 1) (s2 := 0) (as := []) (rest := []) kx_196_105 kp_196_286 (Or.inl rfl) rfl (tk_63 hT) ki_180 kcl_180 rfl rfl (by decide) (m_180 (d := d + 1) hT hI1059) (kV (fun M1070 hI1070 fr1070 v1069p => ?_))
              have hFm1070 := hFm1059.call fr1070 rfl
              have tr1071 := (fr1070 63 9 rfl)
              have tr1072 := (fr1070 63 35 rfl)
              have tr1073 := (fr1070 63 42 rfl)
              have tr1074 := (fr1070 63 43 rfl)
              have tr1075 := (fr1070 63 45 rfl)
              have tr1076 := rg_63_9 hI1070
              refine s_iconst (v := 0) kx_196_108 (by decide) ?_
              have hk1077 : M1070 63 9 = v1046 := ((fr1070 63 9 rfl).trans ((fr1059 63 9 rfl).trans ((u1048.2 63 9 (by omega)).trans v1046e)))
              exact s_iret kx_196_109 (Or.inr ⟨kq_196, by omega⟩) ⟨_, _, rfl, rfl, hI1070, hFm1070, ⟨by omega, by omega, (show LXp M1070 from v1069p.2), (by omega), (by omega), (Or.inr ⟨by omega, Or.inr ⟨rfl, PI.to7 (PI.fr hP1068 fr1070 rfl) (by omega)⟩⟩)⟩⟩
            · refine s_iconst (v := 1) kx_196_86 (by decide) ?_
              have hk1078 : M1037 63 4 = v1035 := ((fr1037 63 4 rfl).trans v1035e)
              have hk1079 : M1037 63 9 = v1046 := v1046e
              exact s_iret kx_196_87 (Or.inr ⟨kq_196, by omega⟩) ⟨_, _, rfl, rfl, hI1037, hFm1037, ⟨by omega, by omega, (LXp.fr (LXp.fr hX fr2 rfl) fr1037 rfl), (by omega), (by omega), (Or.inl (by omega))⟩⟩
    refine s_if_eq (t := 45) kx_196_29 (by decide) (fun hc16 => ?_) (fun hc16 => ?_)
    · have hJ17 : Fr fS_196_j29 M2 M2 := Fr.refl
      replace v15p := v15p.resolve_left (by omega)
      refine s_iconst (v := 0) kx_196_45 (by decide) ?_
      exact cP.wk (lS1 rfl (lS1 rfl lS0)) (jn22 0 (by omega) (by omega) (by omega))
    · have hJ18 : Fr fS_196_j29 M2 M2 := Fr.refl
      replace v15p := v15p.resolve_right (by omega)
      refine s_aload_n kx_196_32 rfl ?_
      refine r_getR (k := 63) (f := 39) (k2 := 87) kx_196_33 kp_196_130 (tk_63 hT) kf_12_39 (by decide) (rq_63_39 hI2) ?_
      refine s_iload_n kx_196_36 rfl ?_
      refine r_bald (k := 87) kx_196_37 (tk_87 hT) ⟨by omega, by omega⟩ (rg_87 hI2) (fun v19 v19e v19a v19b => ?_)
      refine s_if_eq (t := 45) kx_196_38 (by decide) (fun hc20 => ?_) (fun hc20 => ?_)
      · refine s_iconst (v := 0) kx_196_45 (by decide) ?_
        exact cP.wk (lS1 rfl (lS1 rfl lS0)) (jn22 0 (by omega) (by omega) (by omega))
      · refine s_iconst (v := 1) kx_196_41 (by decide) ?_
        refine s_goto (t := 46) kx_196_42 (by decide) ?_
        exact cP.wk (lS1 rfl (lS1 rfl lS0)) (jn22 1 (by omega) (by omega) (by omega))
  · refine s_iconst (v := 1) kx_196_11 (by decide) ?_
    have hk1080 : M2 63 9 = v11 := v11e
    exact s_iret kx_196_12 (Or.inr ⟨kq_196, by omega⟩) ⟨_, _, rfl, rfl, hI2, hFm2, ⟨by omega, by omega, (LXp.fr hX fr2 rfl), (by omega), (by omega), (Or.inl (by omega))⟩⟩
