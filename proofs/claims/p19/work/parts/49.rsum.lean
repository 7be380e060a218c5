def B0 (M : cM) : Prop := M 87 (M 63 42 - 1).toNat = 0
theorem B0.up {M M1 : cM} {k f : Nat} {v : Int} (h : B0 M) (u : Up M k f v M1) (hk : k ≠ 87 ∧ (k ≠ 63 ∨ f ≠ 42)) : B0 M1 := by
  unfold B0
  rw [u.2 63 42 (by omega), u.2 87 _ (by omega)]
  exact h
theorem B0.fr {S : List (Nat × Nat)} {M M1 : cM} (h : B0 M) (g : Fr S M M1) (h1 : c_in S 63 42 = false) (h2 : ∀ f, c_in S 87 f = false) : B0 M1 := by
  unfold B0
  rw [g 63 42 h1, g 87 _ (h2 _)]
  exact h
theorem B0.mk {M M1 : cM} {f : Int} (hf : f = M 63 42 - 1) (u : Up M 87 f.toNat 0 M1) : B0 M1 := by
  unfold B0
  rw [u.2 63 42 (by omega), ← hf]
  exact u.1
/-- codes of the other town stay -/
def KP (M M1 : cM) : Prop := ∀ k : Nat, ((k : Int) < 1600 * M 63 36 ∨ 1600 * M 63 36 + 1600 ≤ (k : Int)) → M1 81 k = M 81 k
theorem KP.refl {M : cM} : KP M M := fun _ _ => rfl
theorem KP.up {M0 M M1 : cM} {k f : Nat} {v : Int} (h : KP M0 M) (u : Up M k f v M1) (hk : k ≠ 81) : KP M0 M1 := fun j hj => (u.2 81 j (by omega)).trans (h j hj)
theorem KP.fr {S : List (Nat × Nat)} {M0 M M1 : cM} (h : KP M0 M) (g : Fr S M M1) (hs : ∀ f, c_in S 81 f = false) : KP M0 M1 := fun j hj => (g 81 j (hs j)).trans (h j hj)
theorem KP.trans {M0 M M1 : cM} (h : KP M0 M) (h36 : M 63 36 = M0 63 36) (g : KP M M1) : KP M0 M1 := fun j hj => (g j (by rw [h36]; exact hj)).trans (h j hj)
theorem KP.add {M0 M M1 : cM} (h : KP M0 M) (h36 : M 63 36 = M0 63 36) (hc : 0 ≤ M 63 35 ∧ M 63 35 ≤ 1599) (h0 : 0 ≤ M 63 36) (h3 : ∀ k, k ≠ (1600 * M 63 36 + M 63 35).toNat → M1 81 k = M 81 k) : KP M0 M1 := fun j hj => (h3 j (by omega)).trans (h j hj)
def OPd (M M1 : cM) (c : Nat → Int) (a v : Int) : Prop := 1 ≤ M1 63 9 ∨ (M 63 4 + 1 ≤ M1 63 4 ∧ ((v = 1 ∧ B0 M1 ∧ PI M1 c a 1 7 (M1 63 4) 0) ∨ (v = 0 ∧ PI M1 c a 0 7 (M1 63 4) 0)))
def GOd (M M1 : cM) (c : Nat → Int) (a v : Int) : Prop := 1 ≤ M1 63 9 ∨ (v = 0 ∧ PI M1 c a 1 7 (M1 63 4) 0) ∨ (v = 1 ∧ M 63 4 + 1 ≤ M1 63 4 ∧ ((M1 63 46 = 0 ∧ PI M1 c a 0 7 (M1 63 4) 0) ∨ (M1 63 46 = M 63 46 ∧ B0 M1 ∧ PI M1 c a 1 7 (M1 63 4) 0)))
section PI2
variable {M M1 : cM} {c : Nat → Int} {a r q e : Int} {x : Nat}
theorem PI.opn {e' v : Int} (h : PI M c a x r q e) (u : Up M 63 43 v M1) (hv : e' = e + (v - M 63 43)) : PI M1 c a x r q e' := by
  have := h.opened u (show v = M 63 43 + (v - M 63 43) by omega)
  rw [← hv] at this
  exact this
theorem PI.dop (h : PI M c a x r q e) : M 63 42 - 1 + e ≤ M 63 43 := by
  obtain ⟨F, fs, hG, hC, hR, h42, h43, hr, ha, hac, hh, hq, h45, h36⟩ := h
  omega
theorem PI.to7 (h : PI M c a x r q e) {q' : Int} (hq : q ≤ q') : PI M c a x 7 q' e := (h.top7).wk (Int.le_refl _) hq
theorem PI.no4 {f : Int} (h : PI M c a x 5 q e) (hf : f = M 63 42 - 1) (hp : M 86 f.toNat = 0) : PI M c a x 4 q e := by
  obtain ⟨F, fs, hG, hC, hR, h42, h43, hr, ha, hac, hh, hq, h45, h36⟩ := h
  refine ⟨F, fs, hG, hC, hR, h42, h43, ?_, ha, hac, hh, hq, h45, h36⟩
  rw [show f.toNat = fs.length by omega, hR.2.1] at hp
  obtain ⟨r85, r86, r87, r88, b, r89, hn, hO, hok, hbot, hFs⟩ := hR
  intro o ho
  have h1 := hr o ho
  have h2 := hok.2.2.1 hp o ho
  omega
theorem PI.holdA {l o : Int} (h : PI M c a 1 l q e) (hb : B0 M) (hl : (l = 5 ∧ (o = 10 ∨ o = 11)) ∨ (l = 6 ∧ 12 ≤ o ∧ o ≤ 14)) (g : Fr [(63, 45), (90, 99999)] M M1) (h1 : M1 63 45 = M 63 45 + 1) (h2 : M1 90 (M 63 45).toNat = o) (h3 : ∀ k, k ≠ (M 63 45).toNat → M1 90 k = M 90 k) : PI M1 c a 0 7 (q + 1) e := by
  have hk : l ≤ rk o ∧ rk o ≠ 4 := by
    unfold rk
    (repeat' split) <;> omega
  have hb' : M 87 (M 63 42 - 1).toNat = 0 := hb
  refine PI.to7 (h.hold (o := o) (x' := 0) (e' := e) rfl (Or.inl hk.1) ?_ (Or.inl hk.2) (Or.inr (by omega)) (Or.inr ⟨by omega, rfl, rfl⟩) g h1 h2 h3) (Int.le_refl _)
  unfold opOk
  omega
theorem PI.holdL {l o : Int} (h : PI M c a 1 l q e) (hb : B0 M) (hl : (l = 2 ∧ o = 20) ∨ (l = 1 ∧ o = 21)) (g : Fr [(63, 45), (90, 99999)] M M1) (h1 : M1 63 45 = M 63 45 + 1) (h2 : M1 90 (M 63 45).toNat = o) (h3 : ∀ k, k ≠ (M 63 45).toNat → M1 90 k = M 90 k) : PI M1 c a 0 3 (q + 1) e := by
  have hk : l ≤ rk o ∧ rk o ≤ 2 := by
    unfold rk
    (repeat' split) <;> omega
  have hb' : M 87 (M 63 42 - 1).toNat = 0 := hb
  refine PI.wk (h.hold (o := o) (x' := 0) (e' := e) rfl (Or.inl hk.1) ?_ (Or.inl (by omega)) (Or.inl (by omega)) (Or.inr ⟨by omega, rfl, rfl⟩) g h1 h2 h3) (by omega) (Int.le_refl _)
  unfold opOk
  omega
theorem PI.holdN (h : PI M c a 0 r q 1) {f : Int} (hf : f = M 63 42 - 1) (hb : M 87 f.toNat = 1) (g : Fr [(63, 45), (90, 99999)] M M1) (h1 : M1 63 45 = M 63 45 + 1) (h2 : M1 90 (M 63 45).toNat = 22) (h3 : ∀ k, k ≠ (M 63 45).toNat → M1 90 k = M 90 k) : PI M1 c a 0 7 (q + 1) 0 := by
  refine PI.to7 (h.hold (o := 22) (x' := 0) (e' := 0) hf (Or.inr ⟨rfl, hb⟩) ?_ (Or.inl (by decide)) (Or.inl (by decide)) (Or.inl ⟨rfl, rfl, by decide⟩) g h1 h2 h3) (Int.le_refl _)
  unfold opOk
  omega
theorem PI.holdC {M2 : cM} {f o : Int} (h : PI M c a 1 5 q e) (hf : f = M 63 42 - 1) (hp : M 86 f.toNat = 0) (hb : B0 M) (ho : 17 ≤ o ∧ o ≤ 19) (g : Fr [(63, 45), (90, 99999)] M M1) (h1 : M1 63 45 = M 63 45 + 1) (h2 : M1 90 (M 63 45).toNat = o) (h3 : ∀ k, k ≠ (M 63 45).toNat → M1 90 k = M 90 k) (u : Up M1 86 f.toNat 1 M2) : PI M2 c a 0 7 (q + 1) e := by
  have h4 := h.no4 hf hp
  have hv := Up.of M 86 f.toNat 1
  have h5 := h4.phase (v := 1) (Or.inl (by decide)) hf hv
  have hk : rk o = 4 := by
    unfold rk
    (repeat' split) <;> omega
  have e63 : ∀ k, c_up M 86 f.toNat 1 63 k = M 63 k := fun k => hv.2 63 k (by omega)
  have e90 : ∀ k, c_up M 86 f.toNat 1 90 k = M 90 k := fun k => hv.2 90 k (by omega)
  refine PI.to7 (h5.hold (M1 := M2) (o := o) (x' := 0) (e' := e) (f := f) (by rw [e63]; exact hf) (Or.inl (by omega)) ?_ (Or.inr (by rw [hv.1]; decide)) (Or.inr ?_) (Or.inr ⟨by omega, rfl, rfl⟩) ?_ ?_ ?_ ?_) (Int.le_refl _)
  · unfold opOk
    omega
  · rw [hv.2 87 _ (by omega)]
    have hb' : M 87 (M 63 42 - 1).toNat = 0 := hb
    rw [hf]
    omega
  · intro x y hxy
    by_cases z : x = 86 ∧ y = f.toNat
    · rw [z.1, z.2, u.1, hv.1]
    · rw [u.2 x y z, hv.2 x y z]
      exact g x y hxy
  · rw [u.2 63 45 (by omega), e63]
    exact h1
  · rw [e63, u.2 90 _ (by omega)]
    exact h2
  · intro k hk
    rw [e63] at hk
    rw [u.2 90 k (by omega), e90]
    exact h3 k hk
theorem PI.code4 {k o : Int} (h : PI M c a (1 + comp k o) r q e) (hk : k = 4) (ho : o = 15 ∨ o = 16 ∨ o = 23) (g : Fr [(63, 35), (81, 99999), (82, 99999)] M M1) (h1 : M1 63 35 = M 63 35 + 1) (h2 : M1 81 (1600 * M 63 36 + M 63 35).toNat = o) (h3 : ∀ k, k ≠ (1600 * M 63 36 + M 63 35).toNat → M1 81 k = M 81 k) : PI M1 c a 1 r (q + 1) e := by
  subst hk
  rcases ho with rfl | rfl | rfl
  · exact PI.codeB (x := 1) h (by decide) (by decide) g h1 h2 h3
  · exact PI.codeB (x := 1) h (by decide) (by decide) g h1 h2 h3
  · exact PI.codeW (x := 1) h (by decide) g h1 h2 h3
theorem PI.comp0 {k p : Int} (h : PI M c a (1 + comp k p) r q e) (hk : k ≠ 4 ∧ k ≠ 3) : PI M c a 1 r q e := by
  unfold comp at h
  rw [if_neg hk.1, if_neg hk.2] at h
  exact h
end PI2
theorem kx_189_0 : x_code k_P 189 0 = some (.aload_n 0, 1) := by decide +kernel
theorem kx_189_1 : x_code k_P 189 1 = some (.getfield 105, 3) := by decide +kernel
theorem kp_189_105 : x_pool k_P 189 105 = (1, 12, 31) := by decide +kernel
theorem kx_189_4 : x_code k_P 189 4 = some (.sipush 1600, 3) := by decide +kernel
theorem kx_189_7 : x_code k_P 189 7 = some (.aload_n 0, 1) := by decide +kernel
theorem kx_189_8 : x_code k_P 189 8 = some (.getfield 121, 3) := by decide +kernel
theorem kp_189_121 : x_pool k_P 189 121 = (1, 12, 36) := by decide +kernel
theorem kx_189_11 : x_code k_P 189 11 = some (.imul, 1) := by decide +kernel
theorem kx_189_12 : x_code k_P 189 12 = some (.aload_n 0, 1) := by decide +kernel
theorem kx_189_13 : x_code k_P 189 13 = some (.getfield 118, 3) := by decide +kernel
theorem kp_189_118 : x_pool k_P 189 118 = (1, 12, 35) := by decide +kernel
theorem kf_12_35 : (x_cls k_P 12)[35]? = some 0 := by decide +kernel
theorem kx_189_16 : x_code k_P 189 16 = some (.iadd, 1) := by decide +kernel
theorem kx_189_17 : x_code k_P 189 17 = some (.iload_n 1, 1) := by decide +kernel
theorem kx_189_18 : x_code k_P 189 18 = some (.iastore, 1) := by decide +kernel
theorem kx_189_19 : x_code k_P 189 19 = some (.aload_n 0, 1) := by decide +kernel
theorem kx_189_20 : x_code k_P 189 20 = some (.getfield 108, 3) := by decide +kernel
theorem kp_189_108 : x_pool k_P 189 108 = (1, 12, 32) := by decide +kernel
theorem kx_189_23 : x_code k_P 189 23 = some (.sipush 1600, 3) := by decide +kernel
theorem kx_189_26 : x_code k_P 189 26 = some (.aload_n 0, 1) := by decide +kernel
theorem kx_189_27 : x_code k_P 189 27 = some (.getfield 121, 3) := by decide +kernel
theorem kx_189_30 : x_code k_P 189 30 = some (.imul, 1) := by decide +kernel
theorem kx_189_31 : x_code k_P 189 31 = some (.aload_n 0, 1) := by decide +kernel
theorem kx_189_32 : x_code k_P 189 32 = some (.getfield 118, 3) := by decide +kernel
theorem kx_189_35 : x_code k_P 189 35 = some (.iadd, 1) := by decide +kernel
theorem kx_189_36 : x_code k_P 189 36 = some (.iload_n 2, 1) := by decide +kernel
theorem kx_189_37 : x_code k_P 189 37 = some (.iastore, 1) := by decide +kernel
theorem kx_189_38 : x_code k_P 189 38 = some (.aload_n 0, 1) := by decide +kernel
theorem kx_189_39 : x_code k_P 189 39 = some (.dup, 1) := by decide +kernel
theorem kx_189_40 : x_code k_P 189 40 = some (.getfield 118, 3) := by decide +kernel
theorem kx_189_43 : x_code k_P 189 43 = some (.iconst 1, 1) := by decide +kernel
theorem kx_189_44 : x_code k_P 189 44 = some (.iadd, 1) := by decide +kernel
theorem kx_189_45 : x_code k_P 189 45 = some (.putfield 118, 3) := by decide +kernel
theorem kx_189_48 : x_code k_P 189 48 = some (.return_, 1) := by decide +kernel
theorem kq_189 : x_retk k_P 189 = 0 := by decide +kernel
def fS_189_m : List (Nat × Nat) := [(63, 35), (81, 99999), (82, 99999)]
theorem m_189 {xs : Nat → Int} {Ln d : Nat} {T : List cK} {M : cM} (hT : TT T) (hI : Rng M) {sort v_ : Int} (p0 : 0 ≤ sort ∧ sort ≤ 23) (p1 : M 63 35 ≤ 1599) : cC k_P xs Ln (d + 0) 189 [rf 63, (0, sort), (0, v_)] (T, M) (qV T M fS_189_m (fun M1 => M1 63 35 = M 63 35 + 1 ∧ M1 81 (1600 * M 63 36 + M 63 35).toNat = sort ∧ (∀ k, k ≠ (1600 * M 63 36 + M 63 35).toNat → M1 81 k = M 81 k))) := by
  show cP k_P xs Ln (d + 0) 189 0 [(0, rf 63), (1, (0, sort)), (2, (0, v_))] [] (T, M) _
  have hFm : Fr fS_189_m M M := Fr.refl
  refine s_aload_n kx_189_0 rfl ?_
  refine r_getR (k := 63) (f := 31) (k2 := 81) kx_189_1 kp_189_105 (tk_63 hT) kf_12_31 (by decide) (rq_63_31 hI) ?_
  refine s_sipush (v := 1600) kx_189_4 (by decide) ?_
  refine s_aload_n kx_189_7 rfl ?_
  refine r_getI (k := 63) (f := 36) kx_189_8 kp_189_121 (tk_63 hT) kf_12_36 (fun _ => rfl) (rg_63_36 hI) (fun v1 v1e v1a v1b => ?_)
  refine r_mul kx_189_11 ⟨by omega, by omega⟩ ?_
  refine s_aload_n kx_189_12 rfl ?_
  refine r_getI (k := 63) (f := 35) kx_189_13 kp_189_118 (tk_63 hT) kf_12_35 (fun _ => rfl) (rg_63_35 hI) (fun v2 v2e v2a v2b => ?_)
  refine r_add kx_189_16 ⟨by omega, by omega⟩ ?_
  refine s_iload_n kx_189_17 rfl ?_
  refine r_ast (k := 81) kx_189_18 (tk_81 hT) ⟨by omega, by omega⟩ hI (ru_81 (by omega) (by omega)) (fun M3 hI3 u3 => ?_)
  have hFm3 := hFm.up u3 rfl
  refine s_aload_n kx_189_19 rfl ?_
  refine r_getR (k := 63) (f := 32) (k2 := 82) kx_189_20 kp_189_108 (tk_63 hT) kf_12_32 (by decide) (rq_63_32 hI3) ?_
  refine s_sipush (v := 1600) kx_189_23 (by decide) ?_
  refine s_aload_n kx_189_26 rfl ?_
  refine r_getK (k := 63) (f := 36) kx_189_27 kp_189_121 (tk_63 hT) kf_12_36 (fun _ => rfl) ((u3.2 63 36 (by omega)).trans v1e) ?_
  refine r_mul kx_189_30 ⟨by omega, by omega⟩ ?_
  refine s_aload_n kx_189_31 rfl ?_
  refine r_getK (k := 63) (f := 35) kx_189_32 kp_189_118 (tk_63 hT) kf_12_35 (fun _ => rfl) ((u3.2 63 35 (by omega)).trans v2e) ?_
  refine r_add kx_189_35 ⟨by omega, by omega⟩ ?_
  refine s_iload_n kx_189_36 rfl ?_
  refine r_ast (k := 82) kx_189_37 (tk_82 hT) ⟨by omega, by omega⟩ hI3 ru_82 (fun M4 hI4 u4 => ?_)
  have hFm4 := hFm3.up u4 rfl
  refine s_aload_n kx_189_38 rfl ?_
  refine s_dup kx_189_39 rfl ?_
  refine r_getK (k := 63) (f := 35) kx_189_40 kp_189_118 (tk_63 hT) kf_12_35 (fun _ => rfl) ((u4.2 63 35 (by omega)).trans ((u3.2 63 35 (by omega)).trans v2e)) ?_
  refine s_iconst (v := 1) kx_189_43 (by decide) ?_
  refine r_add kx_189_44 ⟨by omega, by omega⟩ ?_
  refine r_put (k := 63) (f := 35) kx_189_45 kp_189_118 (tk_63 hT) kf_12_35 rfl (by decide) (by decide) hI4 (ru_63_35 (by omega) (by omega)) (fun M5 hI5 u5 => ?_)
  have hFm5 := hFm4.up u5 rfl
  have hk6 : M5 63 35 = (v2 + 1) := u5.1
  exact s_vret kx_189_48 kq_189 ⟨_, rfl, rfl, hI5, hFm5, ⟨by omega, by rw [(show (1600 * M 63 36 + M 63 35).toNat = ((1600 * v1) + v2).toNat by rw [v1e, v2e])]; exact ((u5.2 81 _ (by omega)).trans ((u4.2 81 _ (by omega)).trans u3.1)), fun k hk => ((u5.2 81 k (by omega)).trans ((u4.2 81 k (by omega)).trans (u3.2 81 k (by rw [(show (1600 * M 63 36 + M 63 35).toNat = ((1600 * v1) + v2).toNat by rw [v1e, v2e])] at hk; omega))))⟩⟩
theorem kx_190_0 : x_code k_P 190 0 = some (.iload_n 0, 1) := by decide +kernel
theorem kx_190_1 : x_code k_P 190 1 = some (.bipush 21, 2) := by decide +kernel
theorem kx_190_3 : x_code k_P 190 3 = some (.if_icmp .ne 7, 3) := by decide +kernel
theorem kx_190_10 : x_code k_P 190 10 = some (.iload_n 0, 1) := by decide +kernel
theorem kx_190_11 : x_code k_P 190 11 = some (.bipush 20, 2) := by decide +kernel
theorem kx_190_13 : x_code k_P 190 13 = some (.if_icmp .ne 7, 3) := by decide +kernel
theorem kx_190_20 : x_code k_P 190 20 = some (.iload_n 0, 1) := by decide +kernel
theorem kx_190_21 : x_code k_P 190 21 = some (.bipush 22, 2) := by decide +kernel
theorem kx_190_23 : x_code k_P 190 23 = some (.if_icmp .ne 7, 3) := by decide +kernel
theorem kx_190_30 : x_code k_P 190 30 = some (.iload_n 0, 1) := by decide +kernel
theorem kx_190_31 : x_code k_P 190 31 = some (.bipush 17, 2) := by decide +kernel
theorem kx_190_33 : x_code k_P 190 33 = some (.if_icmp .eq 15, 3) := by decide +kernel
theorem kx_190_48 : x_code k_P 190 48 = some (.iconst 4, 1) := by decide +kernel
theorem kx_190_49 : x_code k_P 190 49 = some (.goto 21, 3) := by decide +kernel
theorem kx_190_70 : x_code k_P 190 70 = some (.ireturn, 1) := by decide +kernel
theorem kq_190 : x_retk k_P 190 = 1 := by decide +kernel
theorem kx_190_36 : x_code k_P 190 36 = some (.iload_n 0, 1) := by decide +kernel
theorem kx_190_37 : x_code k_P 190 37 = some (.bipush 18, 2) := by decide +kernel
theorem kx_190_39 : x_code k_P 190 39 = some (.if_icmp .eq 9, 3) := by decide +kernel
theorem kx_190_42 : x_code k_P 190 42 = some (.iload_n 0, 1) := by decide +kernel
theorem kx_190_43 : x_code k_P 190 43 = some (.bipush 19, 2) := by decide +kernel
theorem kx_190_45 : x_code k_P 190 45 = some (.if_icmp .ne 7, 3) := by decide +kernel
theorem kx_190_52 : x_code k_P 190 52 = some (.iload_n 0, 1) := by decide +kernel
theorem kx_190_53 : x_code k_P 190 53 = some (.bipush 10, 2) := by decide +kernel
theorem kx_190_55 : x_code k_P 190 55 = some (.if_icmp .eq 9, 3) := by decide +kernel
theorem kx_190_64 : x_code k_P 190 64 = some (.iconst 5, 1) := by decide +kernel
theorem kx_190_65 : x_code k_P 190 65 = some (.goto 5, 3) := by decide +kernel
theorem kx_190_58 : x_code k_P 190 58 = some (.iload_n 0, 1) := by decide +kernel
theorem kx_190_59 : x_code k_P 190 59 = some (.bipush 11, 2) := by decide +kernel
theorem kx_190_61 : x_code k_P 190 61 = some (.if_icmp .ne 7, 3) := by decide +kernel
theorem kx_190_68 : x_code k_P 190 68 = some (.bipush 6, 2) := by decide +kernel
theorem kx_190_26 : x_code k_P 190 26 = some (.iconst 3, 1) := by decide +kernel
theorem kx_190_27 : x_code k_P 190 27 = some (.goto 43, 3) := by decide +kernel
theorem kx_190_16 : x_code k_P 190 16 = some (.iconst 2, 1) := by decide +kernel
theorem kx_190_17 : x_code k_P 190 17 = some (.goto 53, 3) := by decide +kernel
theorem kx_190_6 : x_code k_P 190 6 = some (.iconst 1, 1) := by decide +kernel
theorem kx_190_7 : x_code k_P 190 7 = some (.goto 63, 3) := by decide +kernel
theorem m_190 {xs : Nat → Int} {Ln d : Nat} {T : List cK} {M : cM} (hT : TT T) (hI : Rng M) {op : Int} : cC k_P xs Ln (d + 0) 190 [(0, op)] (T, M) (qF T M 0 (fun v => v = rk op)) := by
  show cP k_P xs Ln (d + 0) 190 0 [(0, (0, op))] [] (T, M) _
  refine s_iload_n kx_190_0 rfl ?_
  refine s_bipush (v := 21) kx_190_1 (by decide) ?_
  refine s_icmp_ne (t := 10) kx_190_3 (by decide) (fun hc1 => ?_) (fun hc1 => ?_)
  · refine s_iload_n kx_190_10 rfl ?_
    refine s_bipush (v := 20) kx_190_11 (by decide) ?_
    refine s_icmp_ne (t := 20) kx_190_13 (by decide) (fun hc2 => ?_) (fun hc2 => ?_)
    · refine s_iload_n kx_190_20 rfl ?_
      refine s_bipush (v := 22) kx_190_21 (by decide) ?_
      refine s_icmp_ne (t := 30) kx_190_23 (by decide) (fun hc3 => ?_) (fun hc3 => ?_)
      · refine s_iload_n kx_190_30 rfl ?_
        refine s_bipush (v := 17) kx_190_31 (by decide) ?_
        refine s_icmp_eq (t := 48) kx_190_33 (by decide) (fun hc4 => ?_) (fun hc4 => ?_)
        · refine s_iconst (v := 4) kx_190_48 (by decide) ?_
          refine s_goto (t := 70) kx_190_49 (by decide) ?_
          exact s_iret kx_190_70 (Or.inl kq_190) ⟨_, rfl, rfl, (by unfold rk; (repeat' split) <;> omega)⟩
        · refine s_iload_n kx_190_36 rfl ?_
          refine s_bipush (v := 18) kx_190_37 (by decide) ?_
          refine s_icmp_eq (t := 48) kx_190_39 (by decide) (fun hc5 => ?_) (fun hc5 => ?_)
          · refine s_iconst (v := 4) kx_190_48 (by decide) ?_
            refine s_goto (t := 70) kx_190_49 (by decide) ?_
            exact s_iret kx_190_70 (Or.inl kq_190) ⟨_, rfl, rfl, (by unfold rk; (repeat' split) <;> omega)⟩
          · refine s_iload_n kx_190_42 rfl ?_
            refine s_bipush (v := 19) kx_190_43 (by decide) ?_
            refine s_icmp_ne (t := 52) kx_190_45 (by decide) (fun hc6 => ?_) (fun hc6 => ?_)
            · refine s_iload_n kx_190_52 rfl ?_
              refine s_bipush (v := 10) kx_190_53 (by decide) ?_
              refine s_icmp_eq (t := 64) kx_190_55 (by decide) (fun hc7 => ?_) (fun hc7 => ?_)
              · refine s_iconst (v := 5) kx_190_64 (by decide) ?_
                refine s_goto (t := 70) kx_190_65 (by decide) ?_
                exact s_iret kx_190_70 (Or.inl kq_190) ⟨_, rfl, rfl, (by unfold rk; (repeat' split) <;> omega)⟩
              · refine s_iload_n kx_190_58 rfl ?_
                refine s_bipush (v := 11) kx_190_59 (by decide) ?_
                refine s_icmp_ne (t := 68) kx_190_61 (by decide) (fun hc8 => ?_) (fun hc8 => ?_)
                · refine s_bipush (v := 6) kx_190_68 (by decide) ?_
                  exact s_iret kx_190_70 (Or.inl kq_190) ⟨_, rfl, rfl, (by unfold rk; (repeat' split) <;> omega)⟩
                · refine s_iconst (v := 5) kx_190_64 (by decide) ?_
                  refine s_goto (t := 70) kx_190_65 (by decide) ?_
                  exact s_iret kx_190_70 (Or.inl kq_190) ⟨_, rfl, rfl, (by unfold rk; (repeat' split) <;> omega)⟩
            · refine s_iconst (v := 4) kx_190_48 (by decide) ?_
              refine s_goto (t := 70) kx_190_49 (by decide) ?_
              exact s_iret kx_190_70 (Or.inl kq_190) ⟨_, rfl, rfl, (by unfold rk; (repeat' split) <;> omega)⟩
      · refine s_iconst (v := 3) kx_190_26 (by decide) ?_
        refine s_goto (t := 70) kx_190_27 (by decide) ?_
        exact s_iret kx_190_70 (Or.inl kq_190) ⟨_, rfl, rfl, (by unfold rk; (repeat' split) <;> omega)⟩
    · refine s_iconst (v := 2) kx_190_16 (by decide) ?_
      refine s_goto (t := 70) kx_190_17 (by decide) ?_
      exact s_iret kx_190_70 (Or.inl kq_190) ⟨_, rfl, rfl, (by unfold rk; (repeat' split) <;> omega)⟩
  · refine s_iconst (v := 1) kx_190_6 (by decide) ?_
    refine s_goto (t := 70) kx_190_7 (by decide) ?_
    exact s_iret kx_190_70 (Or.inl kq_190) ⟨_, rfl, rfl, (by unfold rk; (repeat' split) <;> omega)⟩
theorem kx_195_0 : x_code k_P 195 0 = some (.iload_n 0, 1) := by decide +kernel
theorem kx_195_1 : x_code k_P 195 1 = some (.iconst 1, 1) := by decide +kernel
theorem kx_195_2 : x_code k_P 195 2 = some (.if_icmp .eq 14, 3) := by decide +kernel
theorem kx_195_16 : x_code k_P 195 16 = some (.iconst 1, 1) := by decide +kernel
theorem kx_195_17 : x_code k_P 195 17 = some (.goto 4, 3) := by decide +kernel
theorem kx_195_21 : x_code k_P 195 21 = some (.ireturn, 1) := by decide +kernel
theorem kq_195 : x_retk k_P 195 = 2 := by decide +kernel
theorem kx_195_5 : x_code k_P 195 5 = some (.iload_n 0, 1) := by decide +kernel
theorem kx_195_6 : x_code k_P 195 6 = some (.iconst 5, 1) := by decide +kernel
theorem kx_195_7 : x_code k_P 195 7 = some (.if_icmp .eq 9, 3) := by decide +kernel
theorem kx_195_10 : x_code k_P 195 10 = some (.iload_n 0, 1) := by decide +kernel
theorem kx_195_11 : x_code k_P 195 11 = some (.bipush 6, 2) := by decide +kernel
theorem kx_195_13 : x_code k_P 195 13 = some (.if_icmp .ne 7, 3) := by decide +kernel
theorem kx_195_20 : x_code k_P 195 20 = some (.iconst 0, 1) := by decide +kernel
theorem m_195 {xs : Nat → Int} {Ln d : Nat} {T : List cK} {M : cM} (hT : TT T) (hI : Rng M) {kind : Int} : cC k_P xs Ln (d + 0) 195 [(0, kind)] (T, M) (qF T M 0 (fun v => (v = 1 ∧ (kind = 1 ∨ kind = 5 ∨ kind = 6)) ∨ v = 0)) := by
  show cP k_P xs Ln (d + 0) 195 0 [(0, (0, kind))] [] (T, M) _
  refine s_iload_n kx_195_0 rfl ?_
  refine s_iconst (v := 1) kx_195_1 (by decide) ?_
  refine s_icmp_eq (t := 16) kx_195_2 (by decide) (fun hc1 => ?_) (fun hc1 => ?_)
  · refine s_iconst (v := 1) kx_195_16 (by decide) ?_
    refine s_goto (t := 21) kx_195_17 (by decide) ?_
    exact s_iret kx_195_21 (Or.inr ⟨kq_195, by omega⟩) ⟨_, rfl, rfl, (by omega)⟩
  · refine s_iload_n kx_195_5 rfl ?_
    refine s_iconst (v := 5) kx_195_6 (by decide) ?_
    refine s_icmp_eq (t := 16) kx_195_7 (by decide) (fun hc2 => ?_) (fun hc2 => ?_)
    · refine s_iconst (v := 1) kx_195_16 (by decide) ?_
      refine s_goto (t := 21) kx_195_17 (by decide) ?_
      exact s_iret kx_195_21 (Or.inr ⟨kq_195, by omega⟩) ⟨_, rfl, rfl, (by omega)⟩
    · refine s_iload_n kx_195_10 rfl ?_
      refine s_bipush (v := 6) kx_195_11 (by decide) ?_
      refine s_icmp_ne (t := 20) kx_195_13 (by decide) (fun hc3 => ?_) (fun hc3 => ?_)
      · refine s_iconst (v := 0) kx_195_20 (by decide) ?_
        exact s_iret kx_195_21 (Or.inr ⟨kq_195, by omega⟩) ⟨_, rfl, rfl, (by omega)⟩
      · refine s_iconst (v := 1) kx_195_16 (by decide) ?_
        refine s_goto (t := 21) kx_195_17 (by decide) ?_
        exact s_iret kx_195_21 (Or.inr ⟨kq_195, by omega⟩) ⟨_, rfl, rfl, (by omega)⟩
theorem kx_192_0 : x_code k_P 192 0 = some (.aload_n 0, 1) := by decide +kernel
theorem kx_192_1 : x_code k_P 192 1 = some (.getfield 146, 3) := by decide +kernel
theorem kp_192_146 : x_pool k_P 192 146 = (1, 12, 44) := by decide +kernel
theorem kf_12_44 : (x_cls k_P 12)[44]? = some 12 := by decide +kernel
theorem kx_192_4 : x_code k_P 192 4 = some (.aload_n 0, 1) := by decide +kernel
theorem kx_192_5 : x_code k_P 192 5 = some (.getfield 149, 3) := by decide +kernel
theorem kp_192_149 : x_pool k_P 192 149 = (1, 12, 45) := by decide +kernel
theorem kf_12_45 : (x_cls k_P 12)[45]? = some 0 := by decide +kernel
theorem kx_192_8 : x_code k_P 192 8 = some (.iload_n 1, 1) := by decide +kernel
theorem kx_192_9 : x_code k_P 192 9 = some (.iastore, 1) := by decide +kernel
theorem kx_192_10 : x_code k_P 192 10 = some (.aload_n 0, 1) := by decide +kernel
theorem kx_192_11 : x_code k_P 192 11 = some (.dup, 1) := by decide +kernel
theorem kx_192_12 : x_code k_P 192 12 = some (.getfield 149, 3) := by decide +kernel
theorem kx_192_15 : x_code k_P 192 15 = some (.iconst 1, 1) := by decide +kernel
theorem kx_192_16 : x_code k_P 192 16 = some (.iadd, 1) := by decide +kernel
theorem kx_192_17 : x_code k_P 192 17 = some (.putfield 149, 3) := by decide +kernel
theorem kx_192_20 : x_code k_P 192 20 = some (.return_, 1) := by decide +kernel
theorem kq_192 : x_retk k_P 192 = 0 := by decide +kernel
def fS_192_m : List (Nat × Nat) := [(63, 45), (90, 99999)]
theorem m_192 {xs : Nat → Int} {Ln d : Nat} {T : List cK} {M : cM} (hT : TT T) (hI : Rng M) {op : Int} (p0 : 0 ≤ op ∧ op ≤ 22) (p1 : M 63 45 ≤ 499) : cC k_P xs Ln (d + 0) 192 [rf 63, (0, op)] (T, M) (qV T M fS_192_m (fun M1 => M1 63 45 = M 63 45 + 1 ∧ M1 90 (M 63 45).toNat = op ∧ (∀ k, k ≠ (M 63 45).toNat → M1 90 k = M 90 k))) := by
  show cP k_P xs Ln (d + 0) 192 0 [(0, rf 63), (1, (0, op))] [] (T, M) _
  have hFm : Fr fS_192_m M M := Fr.refl
  refine s_aload_n kx_192_0 rfl ?_
  refine r_getR (k := 63) (f := 44) (k2 := 90) kx_192_1 kp_192_146 (tk_63 hT) kf_12_44 (by decide) (rq_63_44 hI) ?_
  refine s_aload_n kx_192_4 rfl ?_
  refine r_getI (k := 63) (f := 45) kx_192_5 kp_192_149 (tk_63 hT) kf_12_45 (fun _ => rfl) (rg_63_45 hI) (fun v1 v1e v1a v1b => ?_)
  refine s_iload_n kx_192_8 rfl ?_
  refine r_ast (k := 90) kx_192_9 (tk_90 hT) ⟨by omega, by omega⟩ hI (ru_90 (by omega) (by omega)) (fun M2 hI2 u2 => ?_)
  have hFm2 := hFm.up u2 rfl
  refine s_aload_n kx_192_10 rfl ?_
  refine s_dup kx_192_11 rfl ?_
  refine r_getK (k := 63) (f := 45) kx_192_12 kp_192_149 (tk_63 hT) kf_12_45 (fun _ => rfl) ((u2.2 63 45 (by omega)).trans v1e) ?_
  refine s_iconst (v := 1) kx_192_15 (by decide) ?_
  refine r_add kx_192_16 ⟨by omega, by omega⟩ ?_
  refine r_put (k := 63) (f := 45) kx_192_17 kp_192_149 (tk_63 hT) kf_12_45 rfl (by decide) (by decide) hI2 (ru_63_45 (by omega) (by omega)) (fun M3 hI3 u3 => ?_)
  have hFm3 := hFm2.up u3 rfl
  have hk4 : M3 63 45 = (v1 + 1) := u3.1
  exact s_vret kx_192_20 kq_192 ⟨_, rfl, rfl, hI3, hFm3, ⟨by omega, by rw [(show (M 63 45).toNat = (v1).toNat by rw [v1e])]; exact ((u3.2 90 _ (by omega)).trans u2.1), fun k hk => ((u3.2 90 k (by omega)).trans (u2.2 90 k (by rw [(show (M 63 45).toNat = (v1).toNat by rw [v1e])] at hk; omega)))⟩⟩
theorem kx_193_0 : x_code k_P 193 0 = some (.aload_n 0, 1) := by decide +kernel
theorem kx_193_1 : x_code k_P 193 1 = some (.getfield 124, 3) := by decide +kernel
theorem kp_193_124 : x_pool k_P 193 124 = (1, 12, 37) := by decide +kernel
theorem kf_12_37 : (x_cls k_P 12)[37]? = some 12 := by decide +kernel
theorem kx_193_4 : x_code k_P 193 4 = some (.aload_n 0, 1) := by decide +kernel
theorem kx_193_5 : x_code k_P 193 5 = some (.getfield 140, 3) := by decide +kernel
theorem kp_193_140 : x_pool k_P 193 140 = (1, 12, 42) := by decide +kernel
theorem kf_12_42 : (x_cls k_P 12)[42]? = some 0 := by decide +kernel
theorem kx_193_8 : x_code k_P 193 8 = some (.iload_n 1, 1) := by decide +kernel
theorem kx_193_9 : x_code k_P 193 9 = some (.iastore, 1) := by decide +kernel
theorem kx_193_10 : x_code k_P 193 10 = some (.aload_n 0, 1) := by decide +kernel
theorem kx_193_11 : x_code k_P 193 11 = some (.getfield 127, 3) := by decide +kernel
theorem kp_193_127 : x_pool k_P 193 127 = (1, 12, 38) := by decide +kernel
theorem kf_12_38 : (x_cls k_P 12)[38]? = some 12 := by decide +kernel
theorem kx_193_14 : x_code k_P 193 14 = some (.aload_n 0, 1) := by decide +kernel
theorem kx_193_15 : x_code k_P 193 15 = some (.getfield 140, 3) := by decide +kernel
theorem kx_193_18 : x_code k_P 193 18 = some (.iconst 0, 1) := by decide +kernel
theorem kx_193_19 : x_code k_P 193 19 = some (.iastore, 1) := by decide +kernel
theorem kx_193_20 : x_code k_P 193 20 = some (.aload_n 0, 1) := by decide +kernel
theorem kx_193_21 : x_code k_P 193 21 = some (.getfield 130, 3) := by decide +kernel
theorem kp_193_130 : x_pool k_P 193 130 = (1, 12, 39) := by decide +kernel
theorem kf_12_39 : (x_cls k_P 12)[39]? = some 12 := by decide +kernel
theorem kx_193_24 : x_code k_P 193 24 = some (.aload_n 0, 1) := by decide +kernel
theorem kx_193_25 : x_code k_P 193 25 = some (.getfield 140, 3) := by decide +kernel
theorem kx_193_28 : x_code k_P 193 28 = some (.iconst 1, 1) := by decide +kernel
theorem kx_193_29 : x_code k_P 193 29 = some (.bastore, 1) := by decide +kernel
theorem kx_193_30 : x_code k_P 193 30 = some (.aload_n 0, 1) := by decide +kernel
theorem kx_193_31 : x_code k_P 193 31 = some (.getfield 137, 3) := by decide +kernel
theorem kp_193_137 : x_pool k_P 193 137 = (1, 12, 41) := by decide +kernel
theorem kf_12_41 : (x_cls k_P 12)[41]? = some 12 := by decide +kernel
theorem kx_193_34 : x_code k_P 193 34 = some (.aload_n 0, 1) := by decide +kernel
theorem kx_193_35 : x_code k_P 193 35 = some (.getfield 140, 3) := by decide +kernel
theorem kx_193_38 : x_code k_P 193 38 = some (.aload_n 0, 1) := by decide +kernel
theorem kx_193_39 : x_code k_P 193 39 = some (.getfield 149, 3) := by decide +kernel
theorem kp_193_149 : x_pool k_P 193 149 = (1, 12, 45) := by decide +kernel
theorem kx_193_42 : x_code k_P 193 42 = some (.iastore, 1) := by decide +kernel
theorem kx_193_43 : x_code k_P 193 43 = some (.aload_n 0, 1) := by decide +kernel
theorem kx_193_44 : x_code k_P 193 44 = some (.dup, 1) := by decide +kernel
theorem kx_193_45 : x_code k_P 193 45 = some (.getfield 140, 3) := by decide +kernel
theorem kx_193_48 : x_code k_P 193 48 = some (.iconst 1, 1) := by decide +kernel
theorem kx_193_49 : x_code k_P 193 49 = some (.iadd, 1) := by decide +kernel
theorem kx_193_50 : x_code k_P 193 50 = some (.putfield 140, 3) := by decide +kernel
theorem kx_193_53 : x_code k_P 193 53 = some (.return_, 1) := by decide +kernel
theorem kq_193 : x_retk k_P 193 = 0 := by decide +kernel
def fS_193_m : List (Nat × Nat) := [(63, 42), (85, 99999), (86, 99999), (87, 99999), (89, 99999)]
theorem m_193 {xs : Nat → Int} {Ln d : Nat} {T : List cK} {M : cM} (hT : TT T) (hI : Rng M) {kind : Int} (p0 : 0 ≤ kind ∧ kind ≤ 6) (p1 : M 63 42 ≤ 7) : cC k_P xs Ln (d + 0) 193 [rf 63, (0, kind)] (T, M) (qV T M fS_193_m (fun M1 => Pu M M1 kind)) := by
  show cP k_P xs Ln (d + 0) 193 0 [(0, rf 63), (1, (0, kind))] [] (T, M) _
  have hFm : Fr fS_193_m M M := Fr.refl
  refine s_aload_n kx_193_0 rfl ?_
  refine r_getR (k := 63) (f := 37) (k2 := 85) kx_193_1 kp_193_124 (tk_63 hT) kf_12_37 (by decide) (rq_63_37 hI) ?_
  refine s_aload_n kx_193_4 rfl ?_
  refine r_getI (k := 63) (f := 42) kx_193_5 kp_193_140 (tk_63 hT) kf_12_42 (fun _ => rfl) (rg_63_42 hI) (fun v1 v1e v1a v1b => ?_)
  refine s_iload_n kx_193_8 rfl ?_
  refine r_ast (k := 85) kx_193_9 (tk_85 hT) ⟨by omega, by omega⟩ hI (ru_85 (by omega) (by omega)) (fun M2 hI2 u2 => ?_)
  have hFm2 := hFm.up u2 rfl
  refine s_aload_n kx_193_10 rfl ?_
  refine r_getR (k := 63) (f := 38) (k2 := 86) kx_193_11 kp_193_127 (tk_63 hT) kf_12_38 (by decide) (rq_63_38 hI2) ?_
  refine s_aload_n kx_193_14 rfl ?_
  refine r_getK (k := 63) (f := 42) kx_193_15 kp_193_140 (tk_63 hT) kf_12_42 (fun _ => rfl) ((u2.2 63 42 (by omega)).trans v1e) ?_
  refine s_iconst (v := 0) kx_193_18 (by decide) ?_
  refine r_ast (k := 86) kx_193_19 (tk_86 hT) ⟨by omega, by omega⟩ hI2 (ru_86 (by omega) (by omega)) (fun M3 hI3 u3 => ?_)
  have hFm3 := hFm2.up u3 rfl
  refine s_aload_n kx_193_20 rfl ?_
  refine r_getR (k := 63) (f := 39) (k2 := 87) kx_193_21 kp_193_130 (tk_63 hT) kf_12_39 (by decide) (rq_63_39 hI3) ?_
  refine s_aload_n kx_193_24 rfl ?_
  refine r_getK (k := 63) (f := 42) kx_193_25 kp_193_140 (tk_63 hT) kf_12_42 (fun _ => rfl) ((u3.2 63 42 (by omega)).trans ((u2.2 63 42 (by omega)).trans v1e)) ?_
  refine s_iconst (v := 1) kx_193_28 (by decide) ?_
  refine r_bast (k := 87) kx_193_29 (tk_87 hT) ⟨by omega, by omega⟩ (by omega) hI3 (ru_87 (by omega) (by omega)) (fun M4 hI4 u4 => ?_)
  have hFm4 := hFm3.up u4 rfl
  refine s_aload_n kx_193_30 rfl ?_
  refine r_getR (k := 63) (f := 41) (k2 := 89) kx_193_31 kp_193_137 (tk_63 hT) kf_12_41 (by decide) (rq_63_41 hI4) ?_
  refine s_aload_n kx_193_34 rfl ?_
  refine r_getK (k := 63) (f := 42) kx_193_35 kp_193_140 (tk_63 hT) kf_12_42 (fun _ => rfl) ((u4.2 63 42 (by omega)).trans ((u3.2 63 42 (by omega)).trans ((u2.2 63 42 (by omega)).trans v1e))) ?_
  refine s_aload_n kx_193_38 rfl ?_
  refine r_getI (k := 63) (f := 45) kx_193_39 kp_193_149 (tk_63 hT) kf_12_45 (fun _ => rfl) (rg_63_45 hI4) (fun v5 v5e v5a v5b => ?_)
  have v5z : M 63 45 = v5 := (((u4.2 63 45 (by omega)).trans ((u3.2 63 45 (by omega)).trans (u2.2 63 45 (by omega))))).symm.trans v5e
  refine r_ast (k := 89) kx_193_42 (tk_89 hT) ⟨by omega, by omega⟩ hI4 (ru_89 (by omega) (by omega)) (fun M6 hI6 u6 => ?_)
  have hFm6 := hFm4.up u6 rfl
  refine s_aload_n kx_193_43 rfl ?_
  refine s_dup kx_193_44 rfl ?_
  refine r_getK (k := 63) (f := 42) kx_193_45 kp_193_140 (tk_63 hT) kf_12_42 (fun _ => rfl) ((u6.2 63 42 (by omega)).trans ((u4.2 63 42 (by omega)).trans ((u3.2 63 42 (by omega)).trans ((u2.2 63 42 (by omega)).trans v1e)))) ?_
  refine s_iconst (v := 1) kx_193_48 (by decide) ?_
  refine r_add kx_193_49 ⟨by omega, by omega⟩ ?_
  refine r_put (k := 63) (f := 42) kx_193_50 kp_193_140 (tk_63 hT) kf_12_42 rfl (by decide) (by decide) hI6 (ru_63_42 (by omega) (by omega)) (fun M7 hI7 u7 => ?_)
  have hFm7 := hFm6.up u7 rfl
  have hk8 : M7 63 42 = (v1 + 1) := u7.1
  exact s_vret kx_193_53 kq_193 ⟨_, rfl, rfl, hI7, hFm7, ⟨by omega, (by rw [(show (M 63 42).toNat = (v1).toNat by rw [v1e])]; exact ((u7.2 85 _ (by omega)).trans ((u6.2 85 _ (by omega)).trans ((u4.2 85 _ (by omega)).trans ((u3.2 85 _ (by omega)).trans u2.1))))), (by rw [(show (M 63 42).toNat = (v1).toNat by rw [v1e])]; exact ((u7.2 86 _ (by omega)).trans ((u6.2 86 _ (by omega)).trans ((u4.2 86 _ (by omega)).trans u3.1)))), (by rw [(show (M 63 42).toNat = (v1).toNat by rw [v1e])]; exact ((u7.2 87 _ (by omega)).trans ((u6.2 87 _ (by omega)).trans u4.1))), (by rw [(show (M 63 42).toNat = (v1).toNat by rw [v1e]), v5z]; exact ((u7.2 89 _ (by omega)).trans u6.1)), (fun w i hi w1 w2 => by rw [(show (M 63 42).toNat = (v1).toNat by rw [v1e])] at hi; exact ((u7.2 w i (by omega)).trans ((u6.2 w i (by omega)).trans ((u4.2 w i (by omega)).trans ((u3.2 w i (by omega)).trans (u2.2 w i (by omega))))))), ((u7.2 88 _ (by omega)).trans ((u6.2 88 _ (by omega)).trans ((u4.2 88 _ (by omega)).trans ((u3.2 88 _ (by omega)).trans (u2.2 88 _ (by omega))))))⟩⟩
theorem kx_191_0 : x_code k_P 191 0 = some (.aload_n 0, 1) := by decide +kernel
theorem kx_191_1 : x_code k_P 191 1 = some (.getfield 149, 3) := by decide +kernel
theorem kp_191_149 : x_pool k_P 191 149 = (1, 12, 45) := by decide +kernel
theorem kx_191_4 : x_code k_P 191 4 = some (.aload_n 0, 1) := by decide +kernel
theorem kx_191_5 : x_code k_P 191 5 = some (.getfield 137, 3) := by decide +kernel
theorem kp_191_137 : x_pool k_P 191 137 = (1, 12, 41) := by decide +kernel
theorem kx_191_8 : x_code k_P 191 8 = some (.aload_n 0, 1) := by decide +kernel
theorem kx_191_9 : x_code k_P 191 9 = some (.getfield 140, 3) := by decide +kernel
theorem kp_191_140 : x_pool k_P 191 140 = (1, 12, 42) := by decide +kernel
theorem kx_191_12 : x_code k_P 191 12 = some (.iconst 1, 1) := by decide +kernel
theorem kx_191_13 : x_code k_P 191 13 = some (.isub, 1) := by decide +kernel
theorem kx_191_14 : x_code k_P 191 14 = some (.iaload, 1) := by decide +kernel
theorem kx_191_15 : x_code k_P 191 15 = some (.if_icmp .le 72, 3) := by decide +kernel
theorem kx_191_87 : x_code k_P 191 87 = some (.return_, 1) := by decide +kernel
theorem kq_191 : x_retk k_P 191 = 0 := by decide +kernel
theorem kx_191_18 : x_code k_P 191 18 = some (.aload_n 0, 1) := by decide +kernel
theorem kx_191_19 : x_code k_P 191 19 = some (.getfield 146, 3) := by decide +kernel
theorem kp_191_146 : x_pool k_P 191 146 = (1, 12, 44) := by decide +kernel
theorem kx_191_22 : x_code k_P 191 22 = some (.aload_n 0, 1) := by decide +kernel
theorem kx_191_23 : x_code k_P 191 23 = some (.getfield 149, 3) := by decide +kernel
theorem kx_191_26 : x_code k_P 191 26 = some (.iconst 1, 1) := by decide +kernel
theorem kx_191_27 : x_code k_P 191 27 = some (.isub, 1) := by decide +kernel
theorem kx_191_28 : x_code k_P 191 28 = some (.iaload, 1) := by decide +kernel
theorem kx_191_29 : x_code k_P 191 29 = some (.invokestatic 349, 3) := by decide +kernel
theorem kp_191_349 : x_pool k_P 191 349 = (6, 190, 1) := by decide +kernel
theorem kcl_190 : x_maxL k_P 190 ≤ 60 ∧ 1 ≤ x_maxL k_P 190 := by decide +kernel
theorem kx_191_32 : x_code k_P 191 32 = some (.iload_n 1, 1) := by decide +kernel
theorem kx_191_33 : x_code k_P 191 33 = some (.if_icmp .lt 54, 3) := by decide +kernel
theorem kx_191_36 : x_code k_P 191 36 = some (.aload_n 0, 1) := by decide +kernel
theorem kx_191_37 : x_code k_P 191 37 = some (.dup, 1) := by decide +kernel
theorem kx_191_38 : x_code k_P 191 38 = some (.getfield 149, 3) := by decide +kernel
theorem kx_191_41 : x_code k_P 191 41 = some (.iconst 1, 1) := by decide +kernel
theorem kx_191_42 : x_code k_P 191 42 = some (.isub, 1) := by decide +kernel
theorem kx_191_43 : x_code k_P 191 43 = some (.putfield 149, 3) := by decide +kernel
theorem kx_191_46 : x_code k_P 191 46 = some (.aload_n 0, 1) := by decide +kernel
theorem kx_191_47 : x_code k_P 191 47 = some (.aload_n 0, 1) := by decide +kernel
theorem kx_191_48 : x_code k_P 191 48 = some (.getfield 146, 3) := by decide +kernel
theorem kx_191_51 : x_code k_P 191 51 = some (.aload_n 0, 1) := by decide +kernel
theorem kx_191_52 : x_code k_P 191 52 = some (.getfield 149, 3) := by decide +kernel
theorem kx_191_55 : x_code k_P 191 55 = some (.iaload, 1) := by decide +kernel
theorem kx_191_56 : x_code k_P 191 56 = some (.iconst 0, 1) := by decide +kernel
theorem kx_191_57 : x_code k_P 191 57 = some (.invokevirtual 352, 3) := by decide +kernel
theorem kp_191_352 : x_pool k_P 191 352 = (2, 189, 2) := by decide +kernel
theorem ki_189 : x_mci k_P 189 = 12 := by decide +kernel
theorem kcl_189 : x_maxL k_P 189 ≤ 60 ∧ 3 ≤ x_maxL k_P 189 := by decide +kernel
theorem kx_191_60 : x_code k_P 191 60 = some (.aload_n 0, 1) := by decide +kernel
theorem kx_191_61 : x_code k_P 191 61 = some (.getfield 146, 3) := by decide +kernel
theorem kx_191_64 : x_code k_P 191 64 = some (.aload_n 0, 1) := by decide +kernel
theorem kx_191_65 : x_code k_P 191 65 = some (.getfield 149, 3) := by decide +kernel
theorem kx_191_68 : x_code k_P 191 68 = some (.iaload, 1) := by decide +kernel
theorem kx_191_69 : x_code k_P 191 69 = some (.bipush 22, 2) := by decide +kernel
theorem kx_191_71 : x_code k_P 191 71 = some (.if_icmp .ne (-71), 3) := by decide +kernel
theorem kx_191_74 : x_code k_P 191 74 = some (.aload_n 0, 1) := by decide +kernel
theorem kx_191_75 : x_code k_P 191 75 = some (.dup, 1) := by decide +kernel
theorem kx_191_76 : x_code k_P 191 76 = some (.getfield 143, 3) := by decide +kernel
theorem kp_191_143 : x_pool k_P 191 143 = (1, 12, 43) := by decide +kernel
theorem kf_12_43 : (x_cls k_P 12)[43]? = some 0 := by decide +kernel
theorem kx_191_79 : x_code k_P 191 79 = some (.iconst 1, 1) := by decide +kernel
theorem kx_191_80 : x_code k_P 191 80 = some (.isub, 1) := by decide +kernel
theorem kx_191_81 : x_code k_P 191 81 = some (.putfield 143, 3) := by decide +kernel
theorem kx_191_84 : x_code k_P 191 84 = some (.goto (-84), 3) := by decide +kernel
def fS_191_l0 : List (Nat × Nat) := [(63, 35), (63, 43), (63, 45), (81, 99999), (82, 99999)]
def fS_191_m : List (Nat × Nat) := [(63, 35), (63, 43), (63, 45), (81, 99999), (82, 99999)]
theorem m_191 {xs : Nat → Int} {Ln d : Nat} {T : List cK} {M : cM} (hT : TT T) (hI : Rng M) {least : Int} {c : Nat → Int} {a q e : Int} (hP : PI M c a 1 7 q e) (p0 : 1 ≤ least ∧ least ≤ 6) (p1 : q ≤ 1600) (p2 : 0 ≤ e) : cC k_P xs Ln (d + 1) 191 [rf 63, (0, least)] (T, M) (qV T M fS_191_m (fun M1 => PI M1 c a 1 least q e ∧ KP M M1)) := by
  show cP k_P xs Ln (d + 1) 191 0 [(0, rf 63), (1, (0, least))] [] (T, M) _
  have hFm : Fr fS_191_m M M := Fr.refl
  have key2 : ∀ n3 : Nat, ∀ M1 : cM, Rng M1 → Fr fS_191_m M M1 → Fr fS_191_l0 M M1 → (KP M M1) → (PI M1 c a 1 7 q e) → (M1 63 45).toNat < n3 → cP k_P xs Ln (d + 1) 191 0 [(0, rf 63), (1, (0, least))] [] (T, M1) (qV T M fS_191_m (fun M1 => PI M1 c a 1 least q e ∧ KP M M1)) := by
    intro n3
    induction n3 with
    | zero => intro M1 hI1 hFm1 fl1 i4 i5 hm6; exact absurd hm6 (Nat.not_lt_zero _)
    | succ n3 ih7 =>
      intro M1 hI1 hFm1 fl1 i4 i5 hm6
      have hd := PI.deep i5
      refine s_aload_n kx_191_0 rfl ?_
      refine r_getI (k := 63) (f := 45) kx_191_1 kp_191_149 (tk_63 hT) kf_12_45 (fun _ => rfl) (rg_63_45 hI1) (fun v8 v8e v8a v8b => ?_)
      refine s_aload_n kx_191_4 rfl ?_
      refine r_getR (k := 63) (f := 41) (k2 := 89) kx_191_5 kp_191_137 (tk_63 hT) kf_12_41 (by decide) (rq_63_41 hI1) ?_
      refine s_aload_n kx_191_8 rfl ?_
      refine r_getI (k := 63) (f := 42) kx_191_9 kp_191_140 (tk_63 hT) kf_12_42 (fun _ => rfl) (rg_63_42 hI1) (fun v9 v9e v9a v9b => ?_)
      have v9z : M 63 42 = v9 := ((fl1 63 42 rfl)).symm.trans v9e
      refine s_iconst (v := 1) kx_191_12 (by decide) ?_
      refine r_sub kx_191_13 ⟨by omega, by omega⟩ ?_
      refine r_ald (k := 89) kx_191_14 (tk_89 hT) ⟨by omega, by omega⟩ (rg_89 hI1) (fun v10 v10e v10a v10b => ?_)
      refine s_icmp_le (t := 87) kx_191_15 (by decide) (fun hc11 => ?_) (fun hc11 => ?_)
      · exact s_vret kx_191_87 kq_191 ⟨_, rfl, rfl, hI1, hFm1, ⟨(PI.exit1 i5 (f := (v9 - 1)) (by omega) (by omega)), i4⟩⟩
      · refine s_aload_n kx_191_18 rfl ?_
        refine r_getR (k := 63) (f := 44) (k2 := 90) kx_191_19 kp_191_146 (tk_63 hT) kf_12_44 (by decide) (rq_63_44 hI1) ?_
        refine s_aload_n kx_191_22 rfl ?_
        refine r_getK (k := 63) (f := 45) kx_191_23 kp_191_149 (tk_63 hT) kf_12_45 (fun _ => rfl) v8e ?_
        refine s_iconst (v := 1) kx_191_26 (by decide) ?_
        refine r_sub kx_191_27 ⟨by omega, by omega⟩ ?_
        refine r_ald (k := 90) kx_191_28 (tk_90 hT) ⟨by omega, by omega⟩ (rg_90 hI1) (fun v12 v12e v12a v12b => ?_)
        refine s_callS2 (s1 := 1) (s2 := 0) (as := [(0, v12)]) (rest := []) kx_191_29 kp_191_349 rfl kcl_190 rfl rfl (by decide) (m_190 (d := d) (op := v12) hT hI1) (kF (fun v13 v13p => ?_))
        refine s_iload_n kx_191_32 rfl ?_
        refine s_icmp_lt (t := 87) kx_191_33 (by decide) (fun hc14 => ?_) (fun hc14 => ?_)
        · exact s_vret kx_191_87 kq_191 ⟨_, rfl, rfl, hI1, hFm1, ⟨(PI.exit2 i5 (f := (v9 - 1)) (v := (v8 - 1)) (by omega) (by omega) (by omega) v12e (by omega)), i4⟩⟩
        · refine s_aload_n kx_191_36 rfl ?_
          refine s_dup kx_191_37 rfl ?_
          refine r_getK (k := 63) (f := 45) kx_191_38 kp_191_149 (tk_63 hT) kf_12_45 (fun _ => rfl) v8e ?_
          refine s_iconst (v := 1) kx_191_41 (by decide) ?_
          refine r_sub kx_191_42 ⟨by omega, by omega⟩ ?_
          refine r_put (k := 63) (f := 45) kx_191_43 kp_191_149 (tk_63 hT) kf_12_45 rfl (by decide) (by decide) hI1 (ru_63_45 (by omega) (by omega)) (fun M15 hI15 u15 => ?_)
          have hFm15 := hFm1.up u15 rfl
          have hFl015 := fl1.up u15 rfl
          have tr16 := (u15.2 63 35 (by omega))
          have tr17 := (u15.2 63 36 (by omega))
          have tr18 := (u15.2 63 42 (by omega))
          have tr19 := (u15.2 63 43 (by omega))
          refine s_aload_n kx_191_46 rfl ?_
          refine s_aload_n kx_191_47 rfl ?_
          refine r_getR (k := 63) (f := 44) (k2 := 90) kx_191_48 kp_191_146 (tk_63 hT) kf_12_44 (by decide) (rq_63_44 hI15) ?_
          refine s_aload_n kx_191_51 rfl ?_
          refine r_getK (k := 63) (f := 45) kx_191_52 kp_191_149 (tk_63 hT) kf_12_45 (fun _ => rfl) u15.1 ?_
          refine r_aldK (k := 90) kx_191_55 (tk_90 hT) ⟨by omega, by omega⟩ ((u15.2 90 _ (by omega)).trans v12e) ?_
          refine s_iconst (v := 0) kx_191_56 (by decide) ?_
          refine s_callV2 (k := 63) (s1 := 3) (s2 := 0) (as := [(0, 0), (0, v12)]) (rest := []) kx_191_57 kp_191_352 (Or.inl rfl) rfl (tk_63 hT) ki_189 kcl_189 rfl rfl (by decide) (m_189 (d := d) (sort := v12) (v_ := 0) hT hI15 (by omega) (by omega)) (kV (fun M21 hI21 fr21 v20p => ?_))
          have hFm21 := hFm15.call fr21 rfl
          have hFl021 := hFl015.call fr21 rfl
          have tr22 := (fr21 63 42 rfl)
          have tr23 := (fr21 63 43 rfl)
          have tr24 := (fr21 63 45 rfl)
          have hK25 := KP.add (KP.up i4 u15 (by decide)) ((u15.2 63 36 (by omega)).trans (fl1 63 36 rfl)) ⟨(rg_63_35 hI15).1, by omega⟩ (rg_63_36 hI15).1 v20p.2.2
          refine s_aload_n kx_191_60 rfl ?_
          refine r_getR (k := 63) (f := 44) (k2 := 90) kx_191_61 kp_191_146 (tk_63 hT) kf_12_44 (by decide) (rq_63_44 hI21) ?_
          refine s_aload_n kx_191_64 rfl ?_
          refine r_getK (k := 63) (f := 45) kx_191_65 kp_191_149 (tk_63 hT) kf_12_45 (fun _ => rfl) ((fr21 63 45 rfl).trans u15.1) ?_
          refine r_aldK (k := 90) kx_191_68 (tk_90 hT) ⟨by omega, by omega⟩ ((fr21 90 _ rfl).trans ((u15.2 90 _ (by omega)).trans v12e)) ?_
          refine s_bipush (v := 22) kx_191_69 (by decide) ?_
          refine s_icmp_ne (t := 0) kx_191_71 (by decide) (fun hc26 => ?_) (fun hc26 => ?_)
          · have hk27 : M21 63 45 = (v8 - 1) := ((fr21 63 45 rfl).trans u15.1)
            exact cP.wk (lS1 rfl (lS1 rfl lS0)) (ih7 M21 hI21 hFm21 hFl021 hK25 (PI.popB i5 (f := (v9 - 1)) (by omega) (by omega) (by omega) u15 ((u15.2 90 _ (by omega)).trans v12e) (by omega) fr21 v20p.1 v20p.2.1 v20p.2.2) (by omega))
          · have ho22 : v12 = 22 := by omega
            have hpn := PI.popN i5 (f := (v9 - 1)) (by omega) (by omega) (by omega) u15 (((u15.2 90 _ (by omega)).trans v12e).trans ho22) fr21 v20p.1 (v20p.2.1.trans ho22) v20p.2.2
            have hop := PI.e_le hpn
            refine s_aload_n kx_191_74 rfl ?_
            refine s_dup kx_191_75 rfl ?_
            refine r_getI (k := 63) (f := 43) kx_191_76 kp_191_143 (tk_63 hT) kf_12_43 (fun _ => rfl) (rg_63_43 hI21) (fun v28 v28e v28a v28b => ?_)
            refine s_iconst (v := 1) kx_191_79 (by decide) ?_
            refine r_sub kx_191_80 ⟨by omega, by omega⟩ ?_
            refine r_put (k := 63) (f := 43) kx_191_81 kp_191_143 (tk_63 hT) kf_12_43 rfl (by decide) (by decide) hI21 (ru_63_43 (by omega) (by omega)) (fun M29 hI29 u29 => ?_)
            have hFm29 := hFm21.up u29 rfl
            have hFl029 := hFl021.up u29 rfl
            have tr30 := (u29.2 63 35 (by omega))
            have tr31 := (u29.2 63 36 (by omega))
            have tr32 := (u29.2 63 42 (by omega))
            refine s_goto (t := 0) kx_191_84 (by decide) ?_
            have hk33 : M29 63 45 = (v8 - 1) := ((u29.2 63 45 (by omega)).trans ((fr21 63 45 rfl).trans u15.1))
            exact cP.wk (lS1 rfl (lS1 rfl lS0)) (ih7 M29 hI29 hFm29 hFl029 (KP.up hK25 u29 (by decide)) (PI.opn (e' := e) hpn u29 (by omega)) (by omega))
  exact cP.wk (lS1 rfl (lS1 rfl lS0)) (key2 _ M hI hFm Fr.refl (KP.refl (M := M)) hP (Nat.lt_succ_self _))
theorem kx_194_0 : x_code k_P 194 0 = some (.aload_n 0, 1) := by decide +kernel
theorem kx_194_1 : x_code k_P 194 1 = some (.getfield 143, 3) := by decide +kernel
theorem kp_194_143 : x_pool k_P 194 143 = (1, 12, 43) := by decide +kernel
theorem kx_194_4 : x_code k_P 194 4 = some (.bipush 7, 2) := by decide +kernel
theorem kx_194_6 : x_code k_P 194 6 = some (.if_icmp .ne 12, 3) := by decide +kernel
theorem kx_194_18 : x_code k_P 194 18 = some (.aload_n 0, 1) := by decide +kernel
theorem kx_194_19 : x_code k_P 194 19 = some (.getfield 39, 3) := by decide +kernel
theorem kp_194_39 : x_pool k_P 194 39 = (1, 12, 9) := by decide +kernel
theorem kx_194_22 : x_code k_P 194 22 = some (.ifCond .le 4, 3) := by decide +kernel
theorem kx_194_26 : x_code k_P 194 26 = some (.aload_n 0, 1) := by decide +kernel
theorem kx_194_27 : x_code k_P 194 27 = some (.dup, 1) := by decide +kernel
theorem kx_194_28 : x_code k_P 194 28 = some (.getfield 143, 3) := by decide +kernel
theorem kx_194_31 : x_code k_P 194 31 = some (.iconst 1, 1) := by decide +kernel
theorem kx_194_32 : x_code k_P 194 32 = some (.iadd, 1) := by decide +kernel
theorem kx_194_33 : x_code k_P 194 33 = some (.putfield 143, 3) := by decide +kernel
theorem kx_194_36 : x_code k_P 194 36 = some (.aload_n 0, 1) := by decide +kernel
theorem kx_194_37 : x_code k_P 194 37 = some (.invokevirtual 286, 3) := by decide +kernel
theorem kp_194_286 : x_pool k_P 194 286 = (2, 180, 0) := by decide +kernel
theorem kx_194_40 : x_code k_P 194 40 = some (.aload_n 0, 1) := by decide +kernel
theorem kx_194_41 : x_code k_P 194 41 = some (.iload_n 1, 1) := by decide +kernel
theorem kx_194_42 : x_code k_P 194 42 = some (.invokevirtual 355, 3) := by decide +kernel
theorem kp_194_355 : x_pool k_P 194 355 = (2, 193, 1) := by decide +kernel
theorem ki_193 : x_mci k_P 193 = 12 := by decide +kernel
theorem kcl_193 : x_maxL k_P 193 ≤ 60 ∧ 2 ≤ x_maxL k_P 193 := by decide +kernel
theorem kx_194_45 : x_code k_P 194 45 = some (.return_, 1) := by decide +kernel
theorem kq_194 : x_retk k_P 194 = 0 := by decide +kernel
theorem kx_194_25 : x_code k_P 194 25 = some (.return_, 1) := by decide +kernel
theorem kx_194_9 : x_code k_P 194 9 = some (.aload_n 0, 1) := by decide +kernel
theorem kx_194_10 : x_code k_P 194 10 = some (.iconst 5, 1) := by decide +kernel
theorem kx_194_11 : x_code k_P 194 11 = some (.aload_n 0, 1) := by decide +kernel
theorem kx_194_12 : x_code k_P 194 12 = some (.getfield 23, 3) := by decide +kernel
theorem kp_194_23 : x_pool k_P 194 23 = (1, 12, 4) := by decide +kernel
theorem kx_194_15 : x_code k_P 194 15 = some (.invokevirtual 263, 3) := by decide +kernel
theorem kp_194_263 : x_pool k_P 194 263 = (2, 176, 2) := by decide +kernel
def fS_194_m : List (Nat × Nat) := [(63, 10), (63, 13), (63, 3), (63, 4), (63, 42), (63, 43), (63, 5), (63, 6), (63, 7), (63, 8), (63, 9), (85, 99999), (86, 99999), (87, 99999), (89, 99999)]
theorem m_194 {xs : Nat → Int} {Ln d : Nat} {T : List cK} {M : cM} (hT : TT T) (hI : Rng M) {kind : Int} (hX : LXp M) {c : Nat → Int} {a q : Int} (hP : PI M c a 0 7 q 0) (hB : B0 M) (p0 : 0 ≤ kind ∧ kind ≤ 6) : cC k_P xs Ln (d + 2) 194 [rf 63, (0, kind)] (T, M) (qV T M fS_194_m (fun M1 => LXp M1 ∧ M 63 4 ≤ M1 63 4 ∧ M 63 9 ≤ M1 63 9 ∧ (1 ≤ M1 63 9 ∨ (M 63 9 = 0 ∧ M 63 5 ≤ M1 63 4 ∧ 1 ≤ M1 63 42 ∧ PQ M1 c a (q + 1) kind)))) := by
  show cP k_P xs Ln (d + 2) 194 0 [(0, rf 63), (1, (0, kind))] [] (T, M) _
  have hFm : Fr fS_194_m M M := Fr.refl
  have h639 := rg_63_9 hI
  have ⟨lx1, lx2⟩ := hX
  have hdd := PI.deep hP
  refine s_aload_n kx_194_0 rfl ?_
  refine r_getI (k := 63) (f := 43) kx_194_1 kp_194_143 (tk_63 hT) kf_12_43 (fun _ => rfl) (rg_63_43 hI) (fun v1 v1e v1a v1b => ?_)
  refine s_bipush (v := 7) kx_194_4 (by decide) ?_
  refine s_icmp_ne (t := 18) kx_194_6 (by decide) (fun hc2 => ?_) (fun hc2 => ?_)
  · refine s_aload_n kx_194_18 rfl ?_
    refine r_getI (k := 63) (f := 9) kx_194_19 kp_194_39 (tk_63 hT) kf_12_9 (fun _ => rfl) (rg_63_9 hI) (fun v3 v3e v3a v3b => ?_)
    refine s_if_le (t := 26) kx_194_22 (by decide) (fun hc4 => ?_) (fun hc4 => ?_)
    · refine s_aload_n kx_194_26 rfl ?_
      refine s_dup kx_194_27 rfl ?_
      refine r_getK (k := 63) (f := 43) kx_194_28 kp_194_143 (tk_63 hT) kf_12_43 (fun _ => rfl) v1e ?_
      refine s_iconst (v := 1) kx_194_31 (by decide) ?_
      refine r_add kx_194_32 ⟨by omega, by omega⟩ ?_
      refine r_put (k := 63) (f := 43) kx_194_33 kp_194_143 (tk_63 hT) kf_12_43 rfl (by decide) (by decide) hI (ru_63_43 (by omega) (by omega)) (fun M5 hI5 u5 => ?_)
      have hFm5 := hFm.up u5 rfl
      have tr6 := (u5.2 63 3 (by omega))
      have tr7 := (u5.2 63 4 (by omega))
      have tr8 := (u5.2 63 5 (by omega))
      have tr9 := (u5.2 63 9 (by omega))
      have tr10 := (u5.2 63 35 (by omega))
      have tr11 := (u5.2 63 42 (by omega))
      have tr12 := u5.1
      have tr13 := (u5.2 63 45 (by omega))
      refine s_aload_n kx_194_36 rfl ?_
      refine s_callV2 (k := 63) (s1 := 1) (s2 := 0) (as := []) (rest := []) kx_194_37 kp_194_286 (Or.inl rfl) rfl (tk_63 hT) ki_180 kcl_180 rfl rfl (by decide) (m_180 (d := d) hT hI5) (kV (fun M15 hI15 fr15 v14p => ?_))
      have hFm15 := hFm5.call fr15 rfl
      have tr16 := (fr15 63 9 rfl)
      have tr17 := (fr15 63 35 rfl)
      have tr18 := (fr15 63 42 rfl)
      have tr19 := (fr15 63 43 rfl)
      have tr20 := (fr15 63 45 rfl)
      have tr21 := rg_63_9 hI15
      refine s_aload_n kx_194_40 rfl ?_
      refine s_iload_n kx_194_41 rfl ?_
      have hdo := PI.dop (PI.fr (PI.opn (e' := 1) hP u5 (by omega)) fr15 rfl)
      refine s_callV2 (k := 63) (s1 := 2) (s2 := 0) (as := [(0, kind)]) (rest := []) kx_194_42 kp_194_355 (Or.inl rfl) rfl (tk_63 hT) ki_193 kcl_193 rfl rfl (by decide) (m_193 (d := d + 1) (kind := kind) hT hI15 (by omega) (by omega)) (kV (fun M23 hI23 fr23 v22p => ?_))
      have hFm23 := hFm15.call fr23 rfl
      have tr24 := (fr23 63 3 rfl)
      have tr25 := (fr23 63 4 rfl)
      have tr26 := (fr23 63 5 rfl)
      have tr27 := (fr23 63 9 rfl)
      have tr28 := (fr23 63 35 rfl)
      have tr29 := (fr23 63 43 rfl)
      have tr30 := (fr23 63 45 rfl)
      have tr31 := rg_63_9 hI23
      have hpq := PI.push (PI.fr (PI.opn (e' := 1) hP u5 (by omega)) fr15 rfl) rfl (B0.fr (B0.up hB u5 (by decide)) fr15 rfl (fun _ => rfl)) fr23 v22p
      have hq1 := v22p.1
      have hk32 : M23 63 9 = v3 := ((fr23 63 9 rfl).trans ((fr15 63 9 rfl).trans ((u5.2 63 9 (by omega)).trans v3e)))
      exact s_vret kx_194_45 kq_194 ⟨_, rfl, rfl, hI23, hFm23, ⟨(LXp.fr (show LXp M15 from v14p.2) fr23 rfl), (by omega), (by omega), (Or.inr ⟨by omega, by omega, by omega, hpq⟩)⟩⟩
    · have hk33 : M 63 9 = v3 := v3e
      exact s_vret kx_194_25 kq_194 ⟨_, rfl, rfl, hI, hFm, ⟨hX, (by omega), (by omega), (Or.inl (by omega))⟩⟩
  · refine s_aload_n kx_194_9 rfl ?_
    refine s_iconst (v := 5) kx_194_10 (by decide) ?_
    refine s_aload_n kx_194_11 rfl ?_
    refine r_getI (k := 63) (f := 4) kx_194_12 kp_194_23 (tk_63 hT) kf_12_4 (fun _ => rfl) (rg_63_4 hI) (fun v34 v34e v34a v34b => ?_)
    refine s_callV2 (k := 63) (s1 := 3) (s2 := 0) (as := [(0, v34), (0, 5)]) (rest := []) kx_194_15 kp_194_263 (Or.inl rfl) rfl (tk_63 hT) ki_176 kcl_176 rfl rfl (by decide) (m_176 (d := d + 1) (kind := 5) (place := v34) hT hI (by omega)) (kV (fun M36 hI36 fr36 v35p => ?_))
    have hFm36 := hFm.call fr36 rfl
    have tr37 := (fr36 63 3 rfl)
    have tr38 := (fr36 63 4 rfl)
    have tr39 := (fr36 63 5 rfl)
    have tr40 := (fr36 63 35 rfl)
    have tr41 := (fr36 63 42 rfl)
    have tr42 := (fr36 63 43 rfl)
    have tr43 := (fr36 63 45 rfl)
    have tr44 := rg_63_9 hI36
    refine s_aload_n kx_194_18 rfl ?_
    refine r_getI (k := 63) (f := 9) kx_194_19 kp_194_39 (tk_63 hT) kf_12_9 (fun _ => rfl) (rg_63_9 hI36) (fun v45 v45e v45a v45b => ?_)
    refine s_if_le (t := 26) kx_194_22 (by decide) (fun hc46 => ?_) (fun hc46 => ?_)
    · refine s_aload_n kx_194_26 rfl ?_
      refine s_dup kx_194_27 rfl ?_
      refine r_getK (k := 63) (f := 43) kx_194_28 kp_194_143 (tk_63 hT) kf_12_43 (fun _ => rfl) ((fr36 63 43 rfl).trans v1e) ?_
      refine s_iconst (v := 1) kx_194_31 (by decide) ?_
      refine r_add kx_194_32 ⟨by omega, by omega⟩ ?_
      refine r_put (k := 63) (f := 43) kx_194_33 kp_194_143 (tk_63 hT) kf_12_43 rfl (by decide) (by decide) hI36 (ru_63_43 (by omega) (by omega)) (fun M47 hI47 u47 => ?_)
      have hFm47 := hFm36.up u47 rfl
      have tr48 := (u47.2 63 3 (by omega))
      have tr49 := (u47.2 63 4 (by omega))
      have tr50 := (u47.2 63 5 (by omega))
      have tr51 := (u47.2 63 9 (by omega))
      have tr52 := (u47.2 63 35 (by omega))
      have tr53 := (u47.2 63 42 (by omega))
      have tr54 := u47.1
      have tr55 := (u47.2 63 45 (by omega))
      refine s_aload_n kx_194_36 rfl ?_
      refine s_callV2 (k := 63) (s1 := 1) (s2 := 0) (as := []) (rest := []) kx_194_37 kp_194_286 (Or.inl rfl) rfl (tk_63 hT) ki_180 kcl_180 rfl rfl (by decide) (m_180 (d := d) hT hI47) (kV (fun M57 hI57 fr57 v56p => ?_))
      have hFm57 := hFm47.call fr57 rfl
      have tr58 := (fr57 63 9 rfl)
      have tr59 := (fr57 63 35 rfl)
      have tr60 := (fr57 63 42 rfl)
      have tr61 := (fr57 63 43 rfl)
      have tr62 := (fr57 63 45 rfl)
      have tr63 := rg_63_9 hI57
      refine s_aload_n kx_194_40 rfl ?_
      refine s_iload_n kx_194_41 rfl ?_
      have hdo := PI.dop (PI.fr (PI.opn (e' := 1) (PI.fr hP fr36 rfl) u47 (by omega)) fr57 rfl)
      refine s_callV2 (k := 63) (s1 := 2) (s2 := 0) (as := [(0, kind)]) (rest := []) kx_194_42 kp_194_355 (Or.inl rfl) rfl (tk_63 hT) ki_193 kcl_193 rfl rfl (by decide) (m_193 (d := d + 1) (kind := kind) hT hI57 (by omega) (by omega)) (kV (fun M65 hI65 fr65 v64p => ?_))
      have hFm65 := hFm57.call fr65 rfl
      have tr66 := (fr65 63 3 rfl)
      have tr67 := (fr65 63 4 rfl)
      have tr68 := (fr65 63 5 rfl)
      have tr69 := (fr65 63 9 rfl)
      have tr70 := (fr65 63 35 rfl)
      have tr71 := (fr65 63 43 rfl)
      have tr72 := (fr65 63 45 rfl)
      have tr73 := rg_63_9 hI65
      have hpq := PI.push (PI.fr (PI.opn (e' := 1) (PI.fr hP fr36 rfl) u47 (by omega)) fr57 rfl) rfl (B0.fr (B0.up (B0.fr hB fr36 rfl (fun _ => rfl)) u47 (by decide)) fr57 rfl (fun _ => rfl)) fr65 v64p
      have hq1 := v64p.1
      have hk74 : M65 63 9 = v45 := ((fr65 63 9 rfl).trans ((fr57 63 9 rfl).trans ((u47.2 63 9 (by omega)).trans v45e)))
      exact s_vret kx_194_45 kq_194 ⟨_, rfl, rfl, hI65, hFm65, ⟨(LXp.fr (show LXp M57 from v56p.2) fr65 rfl), (by omega), (by omega), (Or.inr ⟨by omega, by omega, by omega, hpq⟩)⟩⟩
    · have hk75 : M36 63 4 = v34 := ((fr36 63 4 rfl).trans v34e)
      have hk76 : M36 63 9 = v45 := v45e
      exact s_vret kx_194_25 kq_194 ⟨_, rfl, rfl, hI36, hFm36, ⟨(LXp.fr hX fr36 rfl), (by omega), (by omega), (Or.inl (by omega))⟩⟩
theorem kx_196_0 : x_code k_P 196 0 = some (.aload_n 0, 1) := by decide +kernel
theorem kx_196_1 : x_code k_P 196 1 = some (.invokevirtual 280, 3) := by decide +kernel
theorem kp_196_280 : x_pool k_P 196 280 = (2, 179, 0) := by decide +kernel
theorem kx_196_4 : x_code k_P 196 4 = some (.aload_n 0, 1) := by decide +kernel
theorem kx_196_5 : x_code k_P 196 5 = some (.getfield 39, 3) := by decide +kernel
theorem kp_196_39 : x_pool k_P 196 39 = (1, 12, 9) := by decide +kernel
theorem kx_196_8 : x_code k_P 196 8 = some (.ifCond .le 5, 3) := by decide +kernel
theorem kx_196_13 : x_code k_P 196 13 = some (.aload_n 0, 1) := by decide +kernel
theorem kx_196_14 : x_code k_P 196 14 = some (.getfield 140, 3) := by decide +kernel
theorem kp_196_140 : x_pool k_P 196 140 = (1, 12, 42) := by decide +kernel
theorem kx_196_17 : x_code k_P 196 17 = some (.iconst 1, 1) := by decide +kernel
theorem kx_196_18 : x_code k_P 196 18 = some (.isub, 1) := by decide +kernel
theorem kx_196_19 : x_code k_P 196 19 = some (.istore_n 1, 1) := by decide +kernel
theorem km_196_1 : 1 < x_maxL k_P 196 := by decide +kernel
theorem kx_196_20 : x_code k_P 196 20 = some (.aload_n 0, 1) := by decide +kernel
theorem kx_196_21 : x_code k_P 196 21 = some (.getfield 124, 3) := by decide +kernel
theorem kp_196_124 : x_pool k_P 196 124 = (1, 12, 37) := by decide +kernel
theorem kx_196_24 : x_code k_P 196 24 = some (.iload_n 1, 1) := by decide +kernel
theorem kx_196_25 : x_code k_P 196 25 = some (.iaload, 1) := by decide +kernel
theorem kx_196_26 : x_code k_P 196 26 = some (.invokestatic 358, 3) := by decide +kernel
theorem kp_196_358 : x_pool k_P 196 358 = (6, 195, 1) := by decide +kernel
theorem kcl_195 : x_maxL k_P 195 ≤ 60 ∧ 1 ≤ x_maxL k_P 195 := by decide +kernel
theorem kx_196_29 : x_code k_P 196 29 = some (.ifCond .eq 16, 3) := by decide +kernel
theorem kx_196_45 : x_code k_P 196 45 = some (.iconst 0, 1) := by decide +kernel
theorem kx_196_32 : x_code k_P 196 32 = some (.aload_n 0, 1) := by decide +kernel
theorem kx_196_33 : x_code k_P 196 33 = some (.getfield 130, 3) := by decide +kernel
theorem kp_196_130 : x_pool k_P 196 130 = (1, 12, 39) := by decide +kernel
theorem kx_196_36 : x_code k_P 196 36 = some (.iload_n 1, 1) := by decide +kernel
theorem kx_196_37 : x_code k_P 196 37 = some (.baload, 1) := by decide +kernel
theorem kx_196_38 : x_code k_P 196 38 = some (.ifCond .eq 7, 3) := by decide +kernel
theorem kx_196_41 : x_code k_P 196 41 = some (.iconst 1, 1) := by decide +kernel
theorem kx_196_42 : x_code k_P 196 42 = some (.goto 4, 3) := by decide +kernel
theorem kx_196_46 : x_code k_P 196 46 = some (.istore_n 2, 1) := by decide +kernel
theorem km_196_2 : 2 < x_maxL k_P 196 := by decide +kernel
theorem kx_196_47 : x_code k_P 196 47 = some (.iload_n 2, 1) := by decide +kernel
theorem kx_196_48 : x_code k_P 196 48 = some (.ifCond .eq 62, 3) := by decide +kernel
theorem kx_196_110 : x_code k_P 196 110 = some (.aload_n 0, 1) := by decide +kernel
theorem kx_196_111 : x_code k_P 196 111 = some (.getfield 130, 3) := by decide +kernel
theorem kx_196_114 : x_code k_P 196 114 = some (.iload_n 1, 1) := by decide +kernel
theorem kx_196_115 : x_code k_P 196 115 = some (.iconst 0, 1) := by decide +kernel
theorem kx_196_116 : x_code k_P 196 116 = some (.bastore, 1) := by decide +kernel
theorem kx_196_117 : x_code k_P 196 117 = some (.iload_n 2, 1) := by decide +kernel
theorem kx_196_118 : x_code k_P 196 118 = some (.ifCond .eq 19, 3) := by decide +kernel
theorem kx_196_137 : x_code k_P 196 137 = some (.iload_n 2, 1) := by decide +kernel
theorem kx_196_138 : x_code k_P 196 138 = some (.ifCond .eq 33, 3) := by decide +kernel
theorem kx_196_171 : x_code k_P 196 171 = some (.aload_n 0, 1) := by decide +kernel
theorem kx_196_172 : x_code k_P 196 172 = some (.bipush 40, 2) := by decide +kernel
theorem kx_196_174 : x_code k_P 196 174 = some (.invokevirtual 283, 3) := by decide +kernel
theorem kp_196_283 : x_pool k_P 196 283 = (2, 181, 1) := by decide +kernel
theorem kx_196_177 : x_code k_P 196 177 = some (.ifCond .eq 10, 3) := by decide +kernel
theorem kx_196_187 : x_code k_P 196 187 = some (.aload_n 0, 1) := by decide +kernel
theorem kx_196_188 : x_code k_P 196 188 = some (.ldc2_w 333, 3) := by decide +kernel
theorem kp_196_333 : x_pool k_P 196 333 = (8, 0, 7170414) := by decide +kernel
theorem kx_196_191 : x_code k_P 196 191 = some (.invokevirtual 361, 3) := by decide +kernel
theorem kp_196_361 : x_pool k_P 196 361 = (2, 182, 1) := by decide +kernel
theorem kx_196_194 : x_code k_P 196 194 = some (.ifCond .ne 23, 3) := by decide +kernel
theorem kx_196_217 : x_code k_P 196 217 = some (.aload_n 0, 1) := by decide +kernel
theorem kx_196_218 : x_code k_P 196 218 = some (.ldc2_w 333, 3) := by decide +kernel
theorem kx_196_221 : x_code k_P 196 221 = some (.invokevirtual 361, 3) := by decide +kernel
theorem kx_196_224 : x_code k_P 196 224 = some (.ifCond .eq 8, 3) := by decide +kernel
theorem kx_196_232 : x_code k_P 196 232 = some (.aload_n 0, 1) := by decide +kernel
theorem kx_196_233 : x_code k_P 196 233 = some (.ldc2_w 335, 3) := by decide +kernel
theorem kp_196_335 : x_pool k_P 196 335 = (8, 0, 7168376) := by decide +kernel
theorem kx_196_236 : x_code k_P 196 236 = some (.invokevirtual 361, 3) := by decide +kernel
theorem kx_196_239 : x_code k_P 196 239 = some (.ifCond .eq 8, 3) := by decide +kernel
theorem kx_196_247 : x_code k_P 196 247 = some (.bipush 23, 2) := by decide +kernel
theorem kx_196_242 : x_code k_P 196 242 = some (.bipush 16, 2) := by decide +kernel
theorem kx_196_244 : x_code k_P 196 244 = some (.goto 5, 3) := by decide +kernel
theorem kx_196_227 : x_code k_P 196 227 = some (.bipush 15, 2) := by decide +kernel
theorem kx_196_229 : x_code k_P 196 229 = some (.goto 20, 3) := by decide +kernel
theorem kx_196_249 : x_code k_P 196 249 = some (.istore_n 3, 1) := by decide +kernel
theorem km_196_3 : 3 < x_maxL k_P 196 := by decide +kernel
theorem kx_196_250 : x_code k_P 196 250 = some (.aload_n 0, 1) := by decide +kernel
theorem kx_196_251 : x_code k_P 196 251 = some (.invokevirtual 286, 3) := by decide +kernel
theorem kp_196_286 : x_pool k_P 196 286 = (2, 180, 0) := by decide +kernel
theorem kx_196_254 : x_code k_P 196 254 = some (.aload_n 0, 1) := by decide +kernel
theorem kx_196_255 : x_code k_P 196 255 = some (.invokevirtual 280, 3) := by decide +kernel
theorem kx_196_258 : x_code k_P 196 258 = some (.aload_n 0, 1) := by decide +kernel
theorem kx_196_259 : x_code k_P 196 259 = some (.bipush 40, 2) := by decide +kernel
theorem kx_196_261 : x_code k_P 196 261 = some (.invokevirtual 283, 3) := by decide +kernel
theorem kx_196_264 : x_code k_P 196 264 = some (.ifCond .ne 12, 3) := by decide +kernel
theorem kx_196_276 : x_code k_P 196 276 = some (.aload_n 0, 1) := by decide +kernel
theorem kx_196_277 : x_code k_P 196 277 = some (.iload_n 3, 1) := by decide +kernel
theorem kx_196_278 : x_code k_P 196 278 = some (.bipush 23, 2) := by decide +kernel
theorem kx_196_280 : x_code k_P 196 280 = some (.if_icmp .ne 8, 3) := by decide +kernel
theorem kx_196_288 : x_code k_P 196 288 = some (.iconst 3, 1) := by decide +kernel
theorem kx_196_289 : x_code k_P 196 289 = some (.invokevirtual 367, 3) := by decide +kernel
theorem kp_196_367 : x_pool k_P 196 367 = (2, 194, 1) := by decide +kernel
theorem ki_194 : x_mci k_P 194 = 12 := by decide +kernel
theorem kcl_194 : x_maxL k_P 194 ≤ 60 ∧ 2 ≤ x_maxL k_P 194 := by decide +kernel
theorem kx_196_292 : x_code k_P 196 292 = some (.aload_n 0, 1) := by decide +kernel
theorem kx_196_293 : x_code k_P 196 293 = some (.getfield 39, 3) := by decide +kernel
theorem kx_196_296 : x_code k_P 196 296 = some (.ifCond .ne 15, 3) := by decide +kernel
theorem kx_196_311 : x_code k_P 196 311 = some (.iconst 0, 1) := by decide +kernel
theorem kx_196_312 : x_code k_P 196 312 = some (.ireturn, 1) := by decide +kernel
theorem kq_196 : x_retk k_P 196 = 2 := by decide +kernel
theorem kx_196_299 : x_code k_P 196 299 = some (.aload_n 0, 1) := by decide +kernel
theorem kx_196_300 : x_code k_P 196 300 = some (.getfield 134, 3) := by decide +kernel
theorem kp_196_134 : x_pool k_P 196 134 = (1, 12, 40) := by decide +kernel
theorem kf_12_40 : (x_cls k_P 12)[40]? = some 12 := by decide +kernel
theorem kx_196_303 : x_code k_P 196 303 = some (.aload_n 0, 1) := by decide +kernel
theorem kx_196_304 : x_code k_P 196 304 = some (.getfield 140, 3) := by decide +kernel
theorem kx_196_307 : x_code k_P 196 307 = some (.iconst 1, 1) := by decide +kernel
theorem kx_196_308 : x_code k_P 196 308 = some (.isub, 1) := by decide +kernel
theorem kx_196_309 : x_code k_P 196 309 = some (.iload_n 3, 1) := by decide +kernel
theorem kx_196_310 : x_code k_P 196 310 = some (.iastore, 1) := by decide +kernel
theorem kx_196_283 : x_code k_P 196 283 = some (.bipush 6, 2) := by decide +kernel
theorem kx_196_285 : x_code k_P 196 285 = some (.goto 4, 3) := by decide +kernel
theorem kx_196_267 : x_code k_P 196 267 = some (.aload_n 0, 1) := by decide +kernel
theorem kx_196_268 : x_code k_P 196 268 = some (.iconst 1, 1) := by decide +kernel
theorem kx_196_269 : x_code k_P 196 269 = some (.aload_n 0, 1) := by decide +kernel
theorem kx_196_270 : x_code k_P 196 270 = some (.getfield 23, 3) := by decide +kernel
theorem kp_196_23 : x_pool k_P 196 23 = (1, 12, 4) := by decide +kernel
theorem kx_196_273 : x_code k_P 196 273 = some (.invokevirtual 263, 3) := by decide +kernel
theorem kp_196_263 : x_pool k_P 196 263 = (2, 176, 2) := by decide +kernel
theorem kx_196_197 : x_code k_P 196 197 = some (.aload_n 0, 1) := by decide +kernel
theorem kx_196_198 : x_code k_P 196 198 = some (.ldc2_w 335, 3) := by decide +kernel
theorem kx_196_201 : x_code k_P 196 201 = some (.invokevirtual 361, 3) := by decide +kernel
theorem kx_196_204 : x_code k_P 196 204 = some (.ifCond .ne 13, 3) := by decide +kernel
theorem kx_196_207 : x_code k_P 196 207 = some (.aload_n 0, 1) := by decide +kernel
theorem kx_196_208 : x_code k_P 196 208 = some (.ldc2_w 323, 3) := by decide +kernel
theorem kp_196_323 : x_pool k_P 196 323 = (8, 0, 26982) := by decide +kernel
theorem kx_196_211 : x_code k_P 196 211 = some (.invokevirtual 361, 3) := by decide +kernel
theorem kx_196_214 : x_code k_P 196 214 = some (.ifCond .eq 99, 3) := by decide +kernel
theorem kx_196_313 : x_code k_P 196 313 = some (.aload_n 0, 1) := by decide +kernel
theorem kx_196_314 : x_code k_P 196 314 = some (.getfield 20, 3) := by decide +kernel
theorem kp_196_20 : x_pool k_P 196 20 = (1, 12, 3) := by decide +kernel
theorem kx_196_317 : x_code k_P 196 317 = some (.iconst 2, 1) := by decide +kernel
theorem kx_196_318 : x_code k_P 196 318 = some (.if_icmp .ne 7, 3) := by decide +kernel
theorem kx_196_325 : x_code k_P 196 325 = some (.aload_n 0, 1) := by decide +kernel
theorem kx_196_326 : x_code k_P 196 326 = some (.ldc2_w 297, 3) := by decide +kernel
theorem kp_196_297 : x_pool k_P 196 297 = (8, 0, 499850634611) := by decide +kernel
theorem kx_196_329 : x_code k_P 196 329 = some (.invokevirtual 361, 3) := by decide +kernel
theorem kx_196_332 : x_code k_P 196 332 = some (.ifCond .eq 7, 3) := by decide +kernel
theorem kx_196_339 : x_code k_P 196 339 = some (.aload_n 0, 1) := by decide +kernel
theorem kx_196_340 : x_code k_P 196 340 = some (.ldc2_w 317, 3) := by decide +kernel
theorem kp_196_317 : x_pool k_P 196 317 = (8, 0, 131277443786868) := by decide +kernel
theorem kx_196_343 : x_code k_P 196 343 = some (.invokevirtual 361, 3) := by decide +kernel
theorem kx_196_346 : x_code k_P 196 346 = some (.ifCond .eq 7, 3) := by decide +kernel
theorem kx_196_353 : x_code k_P 196 353 = some (.aload_n 0, 1) := by decide +kernel
theorem kx_196_354 : x_code k_P 196 354 = some (.ldc2_w 301, 3) := by decide +kernel
theorem kp_196_301 : x_pool k_P 196 301 = (8, 0, 126943973305959) := by decide +kernel
theorem kx_196_357 : x_code k_P 196 357 = some (.invokevirtual 361, 3) := by decide +kernel
theorem kx_196_360 : x_code k_P 196 360 = some (.ifCond .eq 7, 3) := by decide +kernel
theorem kx_196_367 : x_code k_P 196 367 = some (.aload_n 0, 1) := by decide +kernel
theorem kx_196_368 : x_code k_P 196 368 = some (.ldc2_w 305, 3) := by decide +kernel
theorem kp_196_305 : x_pool k_P 196 305 = (8, 0, 2003395685) := by decide +kernel
theorem kx_196_371 : x_code k_P 196 371 = some (.invokevirtual 361, 3) := by decide +kernel
theorem kx_196_374 : x_code k_P 196 374 = some (.ifCond .eq 7, 3) := by decide +kernel
theorem kx_196_381 : x_code k_P 196 381 = some (.aload_n 0, 1) := by decide +kernel
theorem kx_196_382 : x_code k_P 196 382 = some (.ldc2_w 319, 3) := by decide +kernel
theorem kp_196_319 : x_pool k_P 196 319 = (8, 0, 427021001579) := by decide +kernel
theorem kx_196_385 : x_code k_P 196 385 = some (.invokevirtual 361, 3) := by decide +kernel
theorem kx_196_388 : x_code k_P 196 388 = some (.ifCond .eq 7, 3) := by decide +kernel
theorem kx_196_395 : x_code k_P 196 395 = some (.aload_n 0, 1) := by decide +kernel
theorem kx_196_396 : x_code k_P 196 396 = some (.ldc2_w 321, 3) := by decide +kernel
theorem kp_196_321 : x_pool k_P 196 321 = (8, 0, 7305070) := by decide +kernel
theorem kx_196_399 : x_code k_P 196 399 = some (.invokevirtual 361, 3) := by decide +kernel
theorem kx_196_402 : x_code k_P 196 402 = some (.ifCond .eq 8, 3) := by decide +kernel
theorem kx_196_410 : x_code k_P 196 410 = some (.iconst (-1), 1) := by decide +kernel
theorem kx_196_405 : x_code k_P 196 405 = some (.bipush 6, 2) := by decide +kernel
theorem kx_196_407 : x_code k_P 196 407 = some (.goto 4, 3) := by decide +kernel
theorem kx_196_391 : x_code k_P 196 391 = some (.iconst 5, 1) := by decide +kernel
theorem kx_196_392 : x_code k_P 196 392 = some (.goto 19, 3) := by decide +kernel
theorem kx_196_377 : x_code k_P 196 377 = some (.iconst 4, 1) := by decide +kernel
theorem kx_196_378 : x_code k_P 196 378 = some (.goto 33, 3) := by decide +kernel
theorem kx_196_363 : x_code k_P 196 363 = some (.iconst 3, 1) := by decide +kernel
theorem kx_196_364 : x_code k_P 196 364 = some (.goto 47, 3) := by decide +kernel
theorem kx_196_349 : x_code k_P 196 349 = some (.iconst 2, 1) := by decide +kernel
theorem kx_196_350 : x_code k_P 196 350 = some (.goto 61, 3) := by decide +kernel
theorem kx_196_335 : x_code k_P 196 335 = some (.iconst 1, 1) := by decide +kernel
theorem kx_196_336 : x_code k_P 196 336 = some (.goto 75, 3) := by decide +kernel
theorem kx_196_321 : x_code k_P 196 321 = some (.iconst 0, 1) := by decide +kernel
theorem kx_196_322 : x_code k_P 196 322 = some (.goto 89, 3) := by decide +kernel
theorem kx_196_411 : x_code k_P 196 411 = some (.istore_n 3, 1) := by decide +kernel
theorem kx_196_412 : x_code k_P 196 412 = some (.iload_n 3, 1) := by decide +kernel
theorem kx_196_413 : x_code k_P 196 413 = some (.iconst (-1), 1) := by decide +kernel
theorem kx_196_414 : x_code k_P 196 414 = some (.if_icmp .ne 12, 3) := by decide +kernel
theorem kx_196_426 : x_code k_P 196 426 = some (.aload_n 0, 1) := by decide +kernel
theorem kx_196_427 : x_code k_P 196 427 = some (.getfield 39, 3) := by decide +kernel
theorem kx_196_430 : x_code k_P 196 430 = some (.ifCond .le 5, 3) := by decide +kernel
theorem kx_196_435 : x_code k_P 196 435 = some (.aload_n 0, 1) := by decide +kernel
theorem kx_196_436 : x_code k_P 196 436 = some (.iload_n 3, 1) := by decide +kernel
theorem kx_196_437 : x_code k_P 196 437 = some (.aload_n 0, 1) := by decide +kernel
theorem kx_196_438 : x_code k_P 196 438 = some (.getfield 29, 3) := by decide +kernel
theorem kp_196_29 : x_pool k_P 196 29 = (1, 12, 6) := by decide +kernel
theorem kx_196_441 : x_code k_P 196 441 = some (.invokevirtual 352, 3) := by decide +kernel
theorem kp_196_352 : x_pool k_P 196 352 = (2, 189, 2) := by decide +kernel
theorem kx_196_444 : x_code k_P 196 444 = some (.aload_n 0, 1) := by decide +kernel
theorem kx_196_445 : x_code k_P 196 445 = some (.invokevirtual 286, 3) := by decide +kernel
theorem kx_196_448 : x_code k_P 196 448 = some (.iconst 1, 1) := by decide +kernel
theorem kx_196_449 : x_code k_P 196 449 = some (.ireturn, 1) := by decide +kernel
theorem kx_196_417 : x_code k_P 196 417 = some (.aload_n 0, 1) := by decide +kernel
theorem kx_196_418 : x_code k_P 196 418 = some (.iconst 1, 1) := by decide +kernel
theorem kx_196_419 : x_code k_P 196 419 = some (.aload_n 0, 1) := by decide +kernel
theorem kx_196_420 : x_code k_P 196 420 = some (.getfield 23, 3) := by decide +kernel
theorem kx_196_423 : x_code k_P 196 423 = some (.invokevirtual 263, 3) := by decide +kernel
theorem kx_196_433 : x_code k_P 196 433 = some (.iconst 1, 1) := by decide +kernel
theorem kx_196_434 : x_code k_P 196 434 = some (.ireturn, 1) := by decide +kernel
theorem kx_196_180 : x_code k_P 196 180 = some (.aload_n 0, 1) := by decide +kernel
theorem kx_196_181 : x_code k_P 196 181 = some (.iconst 2, 1) := by decide +kernel
theorem kx_196_182 : x_code k_P 196 182 = some (.invokevirtual 367, 3) := by decide +kernel
theorem kx_196_185 : x_code k_P 196 185 = some (.iconst 0, 1) := by decide +kernel
theorem kx_196_186 : x_code k_P 196 186 = some (.ireturn, 1) := by decide +kernel
theorem kx_196_51 : x_code k_P 196 51 = some (.aload_n 0, 1) := by decide +kernel
theorem kx_196_52 : x_code k_P 196 52 = some (.ldc2_w 329, 3) := by decide +kernel
theorem kp_196_329 : x_pool k_P 196 329 = (8, 0, 7237492) := by decide +kernel
theorem kx_196_55 : x_code k_P 196 55 = some (.invokevirtual 361, 3) := by decide +kernel
theorem kx_196_58 : x_code k_P 196 58 = some (.ifCond .eq 52, 3) := by decide +kernel
theorem kx_196_121 : x_code k_P 196 121 = some (.aload_n 0, 1) := by decide +kernel
theorem kx_196_122 : x_code k_P 196 122 = some (.bipush 91, 2) := by decide +kernel
theorem kx_196_124 : x_code k_P 196 124 = some (.invokevirtual 283, 3) := by decide +kernel
theorem kx_196_127 : x_code k_P 196 127 = some (.ifCond .eq 10, 3) := by decide +kernel
theorem kx_196_141 : x_code k_P 196 141 = some (.aload_n 0, 1) := by decide +kernel
theorem kx_196_142 : x_code k_P 196 142 = some (.ldc2_w 331, 3) := by decide +kernel
theorem kp_196_331 : x_pool k_P 196 331 = (8, 0, 6384748) := by decide +kernel
theorem kx_196_145 : x_code k_P 196 145 = some (.invokevirtual 361, 3) := by decide +kernel
theorem kx_196_148 : x_code k_P 196 148 = some (.ifCond .eq 23, 3) := by decide +kernel
theorem kx_196_151 : x_code k_P 196 151 = some (.aload_n 0, 1) := by decide +kernel
theorem kx_196_152 : x_code k_P 196 152 = some (.bipush 9, 2) := by decide +kernel
theorem kx_196_154 : x_code k_P 196 154 = some (.iconst 0, 1) := by decide +kernel
theorem kx_196_155 : x_code k_P 196 155 = some (.invokevirtual 352, 3) := by decide +kernel
theorem kx_196_158 : x_code k_P 196 158 = some (.aload_n 0, 1) := by decide +kernel
theorem kx_196_159 : x_code k_P 196 159 = some (.getfield 127, 3) := by decide +kernel
theorem kp_196_127 : x_pool k_P 196 127 = (1, 12, 38) := by decide +kernel
theorem kx_196_162 : x_code k_P 196 162 = some (.iload_n 1, 1) := by decide +kernel
theorem kx_196_163 : x_code k_P 196 163 = some (.iconst 2, 1) := by decide +kernel
theorem kx_196_164 : x_code k_P 196 164 = some (.iastore, 1) := by decide +kernel
theorem kx_196_165 : x_code k_P 196 165 = some (.aload_n 0, 1) := by decide +kernel
theorem kx_196_166 : x_code k_P 196 166 = some (.invokevirtual 286, 3) := by decide +kernel
theorem kx_196_169 : x_code k_P 196 169 = some (.iconst 1, 1) := by decide +kernel
theorem kx_196_170 : x_code k_P 196 170 = some (.ireturn, 1) := by decide +kernel
theorem kx_196_130 : x_code k_P 196 130 = some (.aload_n 0, 1) := by decide +kernel
theorem kx_196_131 : x_code k_P 196 131 = some (.iconst 5, 1) := by decide +kernel
theorem kx_196_132 : x_code k_P 196 132 = some (.invokevirtual 367, 3) := by decide +kernel
theorem kx_196_135 : x_code k_P 196 135 = some (.iconst 0, 1) := by decide +kernel
theorem kx_196_136 : x_code k_P 196 136 = some (.ireturn, 1) := by decide +kernel
theorem kx_196_61 : x_code k_P 196 61 = some (.aload_n 0, 1) := by decide +kernel
theorem kx_196_62 : x_code k_P 196 62 = some (.getfield 143, 3) := by decide +kernel
theorem kp_196_143 : x_pool k_P 196 143 = (1, 12, 43) := by decide +kernel
theorem kx_196_65 : x_code k_P 196 65 = some (.bipush 7, 2) := by decide +kernel
theorem kx_196_67 : x_code k_P 196 67 = some (.if_icmp .ne 12, 3) := by decide +kernel
theorem kx_196_79 : x_code k_P 196 79 = some (.aload_n 0, 1) := by decide +kernel
theorem kx_196_80 : x_code k_P 196 80 = some (.getfield 39, 3) := by decide +kernel
theorem kx_196_83 : x_code k_P 196 83 = some (.ifCond .le 5, 3) := by decide +kernel
theorem kx_196_88 : x_code k_P 196 88 = some (.aload_n 0, 1) := by decide +kernel
theorem kx_196_89 : x_code k_P 196 89 = some (.dup, 1) := by decide +kernel
theorem kx_196_90 : x_code k_P 196 90 = some (.getfield 143, 3) := by decide +kernel
theorem kx_196_93 : x_code k_P 196 93 = some (.iconst 1, 1) := by decide +kernel
theorem kx_196_94 : x_code k_P 196 94 = some (.iadd, 1) := by decide +kernel
theorem kx_196_95 : x_code k_P 196 95 = some (.putfield 143, 3) := by decide +kernel
theorem kx_196_98 : x_code k_P 196 98 = some (.aload_n 0, 1) := by decide +kernel
theorem kx_196_99 : x_code k_P 196 99 = some (.bipush 22, 2) := by decide +kernel
theorem kx_196_101 : x_code k_P 196 101 = some (.invokevirtual 364, 3) := by decide +kernel
theorem kp_196_364 : x_pool k_P 196 364 = (2, 192, 1) := by decide +kernel
theorem ki_192 : x_mci k_P 192 = 12 := by decide +kernel
theorem kcl_192 : x_maxL k_P 192 ≤ 60 ∧ 2 ≤ x_maxL k_P 192 := by decide +kernel
theorem kx_196_104 : x_code k_P 196 104 = some (.aload_n 0, 1) := by decide +kernel
theorem kx_196_105 : x_code k_P 196 105 = some (.invokevirtual 286, 3) := by decide +kernel
theorem kx_196_108 : x_code k_P 196 108 = some (.iconst 0, 1) := by decide +kernel
theorem kx_196_109 : x_code k_P 196 109 = some (.ireturn, 1) := by decide +kernel
theorem kx_196_70 : x_code k_P 196 70 = some (.aload_n 0, 1) := by decide +kernel
theorem kx_196_71 : x_code k_P 196 71 = some (.iconst 5, 1) := by decide +kernel
theorem kx_196_72 : x_code k_P 196 72 = some (.aload_n 0, 1) := by decide +kernel
theorem kx_196_73 : x_code k_P 196 73 = some (.getfield 23, 3) := by decide +kernel
theorem kx_196_76 : x_code k_P 196 76 = some (.invokevirtual 263, 3) := by decide +kernel
theorem kx_196_86 : x_code k_P 196 86 = some (.iconst 1, 1) := by decide +kernel
theorem kx_196_87 : x_code k_P 196 87 = some (.ireturn, 1) := by decide +kernel
theorem kx_196_11 : x_code k_P 196 11 = some (.iconst 1, 1) := by decide +kernel
theorem kx_196_12 : x_code k_P 196 12 = some (.ireturn, 1) := by decide +kernel
def fS_196_m : List (Nat × Nat) := [(63, 10), (63, 13), (63, 3), (63, 35), (63, 4), (63, 42), (63, 43), (63, 45), (63, 5), (63, 6), (63, 7), (63, 8), (63, 9), (81, 99999), (82, 99999), (85, 99999), (86, 99999), (87, 99999), (88, 99999), (89, 99999), (90, 99999)]
def fS_196_j29 : List (Nat × Nat) := []
def fS_196_j224 : List (Nat × Nat) := []
def fS_196_j318 : List (Nat × Nat) := []
theorem m_196 {xs : Nat → Int} {Ln d : Nat} {T : List cK} {M : cM} (hT : TT T) (hI : Rng M) (hX : LXp M) {c : Nat → Int} {a q : Int} (hP : PI M c a 0 7 q 0) (p0 : q ≤ M 63 4) : cC k_P xs Ln (d + 3) 196 [rf 63] (T, M) (qW T M fS_196_m 0 (fun v M1 => 0 ≤ v ∧ v ≤ 1 ∧ (LXp M1 ∧ M 63 4 ≤ M1 63 4 ∧ M 63 9 ≤ M1 63 9 ∧ (OPd M M1 c a v ∧ KP M M1)))) := by
  show cP k_P xs Ln (d + 3) 196 0 [(0, rf 63)] [] (T, M) _
  have hFm : Fr fS_196_m M M := Fr.refl
  have h639 := rg_63_9 hI
  have ⟨lx1, lx2⟩ := hX
  have hd := PI.deep hP
  have hs := PI.small hP (rg_63_43 hI).2 (by decide)
  have hs1 := hs.1
  have hs2 := hs.2.1
  have h4 := rg_63_4 hI
  have h43 := rg_63_43 hI
  have h5 := rg_63_5 hI
  have h45 := rg_63_45 hI
  refine s_aload_n kx_196_0 rfl ?_
  refine s_callV2 (k := 63) (s1 := 1) (s2 := 0) (as := []) (rest := []) kx_196_1 kp_196_280 (Or.inl rfl) rfl (tk_63 hT) ki_179 kcl_179 rfl rfl (by decide) (m_179 (d := d + 1) hT hI) (kV (fun M2 hI2 fr2 v1p => ?_))
  have hFm2 := hFm.call fr2 rfl
  have tr3 := (fr2 63 3 rfl)
  have tr4 := (fr2 63 4 rfl)
  have tr5 := (fr2 63 5 rfl)
  have tr6 := (fr2 63 35 rfl)
  have tr7 := (fr2 63 42 rfl)
  have tr8 := (fr2 63 43 rfl)
  have tr9 := (fr2 63 45 rfl)
  have tr10 := rg_63_9 hI2
  refine s_aload_n kx_196_4 rfl ?_
  refine r_getI (k := 63) (f := 9) kx_196_5 kp_196_39 (tk_63 hT) kf_12_9 (fun _ => rfl) (rg_63_9 hI2) (fun v11 v11e v11a v11b => ?_)
  refine s_if_le (t := 13) kx_196_8 (by decide) (fun hc12 => ?_) (fun hc12 => ?_)
  · refine s_aload_n kx_196_13 rfl ?_
    refine r_getI (k := 63) (f := 42) kx_196_14 kp_196_140 (tk_63 hT) kf_12_42 (fun _ => rfl) (rg_63_42 hI2) (fun v13 v13e v13a v13b => ?_)
    have v13z : M 63 42 = v13 := ((fr2 63 42 rfl)).symm.trans v13e
    refine s_iconst (v := 1) kx_196_17 (by decide) ?_
    refine r_sub kx_196_18 ⟨by omega, by omega⟩ ?_
    refine s_istore_n kx_196_19 km_196_1 rfl ?_
    refine s_aload_n kx_196_20 rfl ?_
    refine r_getR (k := 63) (f := 37) (k2 := 85) kx_196_21 kp_196_124 (tk_63 hT) kf_12_37 (by decide) (rq_63_37 hI2) ?_
    refine s_iload_n kx_196_24 rfl ?_
    refine r_ald (k := 85) kx_196_25 (tk_85 hT) ⟨by omega, by omega⟩ (rg_85 hI2) (fun v14 v14e v14a v14b => ?_)
    refine s_callS2 (s1 := 1) (s2 := 0) (as := [(0, v14)]) (rest := []) kx_196_26 kp_196_358 rfl kcl_195 rfl rfl (by decide) (m_195 (d := d + 2) (kind := v14) hT hI2) (kF (fun v15 v15p => ?_))
    have jn22 : ∀ (y21 : Int), (0 ≤ y21) → (y21 ≤ 1) → ((y21 = 0 ∨ M2 87 ((v13 - 1)).toNat = 1)) → cP k_P xs Ln (d + 3) 196 46 [(0, rf 63), (1, (0, (v13 - 1)))] [(0, y21)] (T, M2) (qW T M fS_196_m 0 (fun v M1 => 0 ≤ v ∧ v ≤ 1 ∧ (LXp M1 ∧ M 63 4 ≤ M1 63 4 ∧ M 63 9 ≤ M1 63 9 ∧ (OPd M M1 c a v ∧ KP M M1)))) := by
      intro y21 a23 a24 a25
      refine s_istore_n kx_196_46 km_196_2 rfl ?_
      refine s_iload_n kx_196_47 rfl ?_
      refine s_if_eq (t := 110) kx_196_48 (by decide) (fun hc26 => ?_) (fun hc26 => ?_)
      · refine s_aload_n kx_196_110 rfl ?_
        refine r_getR (k := 63) (f := 39) (k2 := 87) kx_196_111 kp_196_130 (tk_63 hT) kf_12_39 (by decide) (rq_63_39 hI2) ?_
        refine s_iload_n kx_196_114 rfl ?_
        refine s_iconst (v := 0) kx_196_115 (by decide) ?_
        refine r_bast (k := 87) kx_196_116 (tk_87 hT) ⟨by omega, by omega⟩ (by omega) hI2 (ru_87 (by omega) (by omega)) (fun M27 hI27 u27 => ?_)
        have hFm27 := hFm2.up u27 rfl
        have tr28 := (u27.2 63 3 (by omega))
        have tr29 := (u27.2 63 4 (by omega))
        have tr30 := (u27.2 63 5 (by omega))
        have tr31 := (u27.2 63 9 (by omega))
        have tr32 := (u27.2 63 35 (by omega))
        have tr33 := (u27.2 63 42 (by omega))
        have tr34 := (u27.2 63 43 (by omega))
        have tr35 := (u27.2 63 45 (by omega))
        have hB36 : B0 M27 := B0.mk (by omega) u27
        have hP37 := (PI.begins0 (PI.fr hP fr2 rfl) (by omega) u27)
        refine s_iload_n kx_196_117 rfl ?_
        refine s_if_eq (t := 137) kx_196_118 (by decide) (fun hc38 => ?_) (fun hc38 => absurd hc38 (by omega))
        refine s_iload_n kx_196_137 rfl ?_
        refine s_if_eq (t := 171) kx_196_138 (by decide) (fun hc39 => ?_) (fun hc39 => absurd hc39 (by omega))
        refine s_aload_n kx_196_171 rfl ?_
        refine s_bipush (v := 40) kx_196_172 (by decide) ?_
        refine s_callV2 (k := 63) (s1 := 2) (s2 := 0) (as := [(0, 40)]) (rest := []) kx_196_174 kp_196_283 (Or.inl rfl) rfl (tk_63 hT) ki_181 kcl_181 rfl rfl (by decide) (m_181 (d := d + 2) (c := 40) hT hI27) (kF (fun v40 v40p => ?_))
        refine s_if_eq (t := 187) kx_196_177 (by decide) (fun hc41 => ?_) (fun hc41 => ?_)
        · replace v40p := v40p.resolve_left (by omega)
          refine s_aload_n kx_196_187 rfl ?_
          refine s_ldc2_w kx_196_188 kp_196_333 ?_
          refine s_callV2 (k := 63) (s1 := 3) (s2 := 0) (as := [(1, 7170414)]) (rest := []) kx_196_191 kp_196_361 (Or.inl rfl) rfl (tk_63 hT) ki_182 kcl_182 rfl rfl (by decide) (m_182 (d := d + 2) (w := 7170414) hT hI27) (kF (fun v42 v42p => ?_))
          refine s_if_ne (t := 217) kx_196_194 (by decide) (fun hc43 => ?_) (fun hc43 => ?_)
          · replace v42p := v42p.resolve_right (by omega)
            refine s_aload_n kx_196_217 rfl ?_
            refine s_ldc2_w kx_196_218 kp_196_333 ?_
            refine s_callV2 (k := 63) (s1 := 3) (s2 := 0) (as := [(1, 7170414)]) (rest := []) kx_196_221 kp_196_361 (Or.inl rfl) rfl (tk_63 hT) ki_182 kcl_182 rfl rfl (by decide) (m_182 (d := d + 2) (w := 7170414) hT hI27) (kF (fun v44 v44p => ?_))
            have jn51 : ∀ (y50 : Int), (15 ≤ y50) → (y50 ≤ 23) → ((y50 = 15 ∨ y50 = 16 ∨ y50 = 23)) → cP k_P xs Ln (d + 3) 196 249 [(0, rf 63)] [(0, y50)] (T, M27) (qW T M fS_196_m 0 (fun v M1 => 0 ≤ v ∧ v ≤ 1 ∧ (LXp M1 ∧ M 63 4 ≤ M1 63 4 ∧ M 63 9 ≤ M1 63 9 ∧ (OPd M M1 c a v ∧ KP M M1)))) := by
              intro y50 a52 a53 a54
              refine s_istore_n kx_196_249 km_196_3 rfl ?_
              refine s_aload_n kx_196_250 rfl ?_
              refine s_callV2 (k := 63) (s1 := 1) (s2 := 0) (as := []) (rest := []) kx_196_251 kp_196_286 (Or.inl rfl) rfl (tk_63 hT) ki_180 kcl_180 rfl rfl (by decide) (m_180 (d := d + 1) hT hI27) (kV (fun M56 hI56 fr56 v55p => ?_))
              have hFm56 := hFm27.call fr56 rfl
              have tr57 := (fr56 63 9 rfl)
              have tr58 := (fr56 63 35 rfl)
              have tr59 := (fr56 63 42 rfl)
              have tr60 := (fr56 63 43 rfl)
              have tr61 := (fr56 63 45 rfl)
              have tr62 := rg_63_9 hI56
              refine s_aload_n kx_196_254 rfl ?_
              refine s_callV2 (k := 63) (s1 := 1) (s2 := 0) (as := []) (rest := []) kx_196_255 kp_196_280 (Or.inl rfl) rfl (tk_63 hT) ki_179 kcl_179 rfl rfl (by decide) (m_179 (d := d + 1) hT hI56) (kV (fun M64 hI64 fr64 v63p => ?_))
              have hFm64 := hFm56.call fr64 rfl
              have tr65 := (fr64 63 3 rfl)
              have tr66 := (fr64 63 4 rfl)
              have tr67 := (fr64 63 5 rfl)
              have tr68 := (fr64 63 35 rfl)
              have tr69 := (fr64 63 42 rfl)
              have tr70 := (fr64 63 43 rfl)
              have tr71 := (fr64 63 45 rfl)
              have tr72 := rg_63_9 hI64
              refine s_aload_n kx_196_258 rfl ?_
              refine s_bipush (v := 40) kx_196_259 (by decide) ?_
              refine s_callV2 (k := 63) (s1 := 2) (s2 := 0) (as := [(0, 40)]) (rest := []) kx_196_261 kp_196_283 (Or.inl rfl) rfl (tk_63 hT) ki_181 kcl_181 rfl rfl (by decide) (m_181 (d := d + 2) (c := 40) hT hI64) (kF (fun v73 v73p => ?_))
              refine s_if_ne (t := 276) kx_196_264 (by decide) (fun hc74 => ?_) (fun hc74 => ?_)
              · replace v73p := v73p.resolve_right (by omega)
                refine s_aload_n kx_196_276 rfl ?_
                refine s_iload_n kx_196_277 rfl ?_
                refine s_bipush (v := 23) kx_196_278 (by decide) ?_
                refine s_icmp_ne (t := 288) kx_196_280 (by decide) (fun hc75 => ?_) (fun hc75 => ?_)
                · refine s_iconst (v := 3) kx_196_288 (by decide) ?_
                  refine s_callV2 (k := 63) (s1 := 2) (s2 := 0) (as := [(0, 3)]) (rest := []) kx_196_289 kp_196_367 (Or.inl rfl) rfl (tk_63 hT) ki_194 kcl_194 rfl rfl (by decide) (m_194 (d := d) (kind := 3) hT hI64 (LXp.fr (show LXp M56 from v55p.2) fr64 rfl) (PI.fr (PI.fr hP37 fr56 rfl) fr64 rfl) (B0.fr (B0.fr hB36 fr56 rfl (fun _ => rfl)) fr64 rfl (fun _ => rfl)) (by omega)) (kV (fun M77 hI77 fr77 v76p => ?_))
                  have hFm77 := hFm64.call fr77 rfl
                  have tr78 := (fr77 63 35 rfl)
                  have tr79 := (fr77 63 45 rfl)
                  have tr80 := rg_63_9 hI77
                  refine s_aload_n kx_196_292 rfl ?_
                  refine r_getI (k := 63) (f := 9) kx_196_293 kp_196_39 (tk_63 hT) kf_12_9 (fun _ => rfl) (rg_63_9 hI77) (fun v81 v81e v81a v81b => ?_)
                  refine s_if_ne (t := 311) kx_196_296 (by decide) (fun hc82 => ?_) (fun hc82 => ?_)
                  · refine s_iconst (v := 0) kx_196_311 (by decide) ?_
                    have hk83 : M77 63 9 = v81 := v81e
                    exact s_iret kx_196_312 (Or.inr ⟨kq_196, by omega⟩) ⟨_, _, rfl, rfl, hI77, hFm77, ⟨by omega, by omega, v76p.1, (by omega), (by omega), ⟨(Or.inl (by omega)), (KP.fr (KP.fr (KP.fr (KP.up (KP.fr (KP.refl (M := M)) fr2 (fun _ => rfl)) u27 (by decide)) fr56 (fun _ => rfl)) fr64 (fun _ => rfl)) fr77 (fun _ => rfl))⟩⟩⟩
                  · refine s_aload_n kx_196_299 rfl ?_
                    refine r_getR (k := 63) (f := 40) (k2 := 88) kx_196_300 kp_196_134 (tk_63 hT) kf_12_40 (by decide) (rq_63_40 hI77) ?_
                    refine s_aload_n kx_196_303 rfl ?_
                    refine r_getI (k := 63) (f := 42) kx_196_304 kp_196_140 (tk_63 hT) kf_12_42 (fun _ => rfl) (rg_63_42 hI77) (fun v84 v84e v84a v84b => ?_)
                    refine s_iconst (v := 1) kx_196_307 (by decide) ?_
                    refine r_sub kx_196_308 ⟨by omega, by omega⟩ ?_
                    refine s_iload_n kx_196_309 rfl ?_
                    refine r_ast (k := 88) kx_196_310 (tk_88 hT) ⟨by omega, by omega⟩ hI77 (ru_88 (by omega) (by omega)) (fun M85 hI85 u85 => ?_)
                    have hFm85 := hFm77.up u85 rfl
                    have tr86 := (u85.2 63 3 (by omega))
                    have tr87 := (u85.2 63 4 (by omega))
                    have tr88 := (u85.2 63 5 (by omega))
                    have tr89 := (u85.2 63 9 (by omega))
                    have tr90 := (u85.2 63 35 (by omega))
                    have tr91 := (u85.2 63 42 (by omega))
                    have tr92 := (u85.2 63 43 (by omega))
                    have tr93 := (u85.2 63 45 (by omega))
                    have hpp := (v76p.2.2.2.resolve_left (by omega)).2.2.2 _ _ (by rw [v84e]; exact u85) (by omega)
                    refine s_iconst (v := 0) kx_196_311 (by decide) ?_
                    have hk94 : M85 63 9 = v81 := ((u85.2 63 9 (by omega)).trans v81e)
                    exact s_iret kx_196_312 (Or.inr ⟨kq_196, by omega⟩) ⟨_, _, rfl, rfl, hI85, hFm85, ⟨by omega, by omega, (LXp.up v76p.1 u85 (Or.inl (by decide))), (by omega), (by omega), ⟨(Or.inr ⟨by omega, Or.inr ⟨rfl, PI.to7 hpp (by omega)⟩⟩), (KP.up (KP.fr (KP.fr (KP.fr (KP.up (KP.fr (KP.refl (M := M)) fr2 (fun _ => rfl)) u27 (by decide)) fr56 (fun _ => rfl)) fr64 (fun _ => rfl)) fr77 (fun _ => rfl)) u85 (by decide))⟩⟩⟩
                · refine s_bipush (v := 6) kx_196_283 (by decide) ?_
                  refine s_goto (t := 289) kx_196_285 (by decide) ?_
                  refine s_callV2 (k := 63) (s1 := 2) (s2 := 0) (as := [(0, 6)]) (rest := []) kx_196_289 kp_196_367 (Or.inl rfl) rfl (tk_63 hT) ki_194 kcl_194 rfl rfl (by decide) (m_194 (d := d) (kind := 6) hT hI64 (LXp.fr (show LXp M56 from v55p.2) fr64 rfl) (PI.fr (PI.fr hP37 fr56 rfl) fr64 rfl) (B0.fr (B0.fr hB36 fr56 rfl (fun _ => rfl)) fr64 rfl (fun _ => rfl)) (by omega)) (kV (fun M96 hI96 fr96 v95p => ?_))
                  have hFm96 := hFm64.call fr96 rfl
                  have tr97 := (fr96 63 35 rfl)
                  have tr98 := (fr96 63 45 rfl)
                  have tr99 := rg_63_9 hI96
                  refine s_aload_n kx_196_292 rfl ?_
                  refine r_getI (k := 63) (f := 9) kx_196_293 kp_196_39 (tk_63 hT) kf_12_9 (fun _ => rfl) (rg_63_9 hI96) (fun v100 v100e v100a v100b => ?_)
                  refine s_if_ne (t := 311) kx_196_296 (by decide) (fun hc101 => ?_) (fun hc101 => ?_)
                  · refine s_iconst (v := 0) kx_196_311 (by decide) ?_
                    have hk102 : M96 63 9 = v100 := v100e
                    exact s_iret kx_196_312 (Or.inr ⟨kq_196, by omega⟩) ⟨_, _, rfl, rfl, hI96, hFm96, ⟨by omega, by omega, v95p.1, (by omega), (by omega), ⟨(Or.inl (by omega)), (KP.fr (KP.fr (KP.fr (KP.up (KP.fr (KP.refl (M := M)) fr2 (fun _ => rfl)) u27 (by decide)) fr56 (fun _ => rfl)) fr64 (fun _ => rfl)) fr96 (fun _ => rfl))⟩⟩⟩
                  · refine s_aload_n kx_196_299 rfl ?_
                    refine r_getR (k := 63) (f := 40) (k2 := 88) kx_196_300 kp_196_134 (tk_63 hT) kf_12_40 (by decide) (rq_63_40 hI96) ?_
                    refine s_aload_n kx_196_303 rfl ?_
                    refine r_getI (k := 63) (f := 42) kx_196_304 kp_196_140 (tk_63 hT) kf_12_42 (fun _ => rfl) (rg_63_42 hI96) (fun v103 v103e v103a v103b => ?_)
                    refine s_iconst (v := 1) kx_196_307 (by decide) ?_
                    refine r_sub kx_196_308 ⟨by omega, by omega⟩ ?_
                    refine s_iload_n kx_196_309 rfl ?_
                    refine r_ast (k := 88) kx_196_310 (tk_88 hT) ⟨by omega, by omega⟩ hI96 (ru_88 (by omega) (by omega)) (fun M104 hI104 u104 => ?_)
                    have hFm104 := hFm96.up u104 rfl
                    have tr105 := (u104.2 63 3 (by omega))
                    have tr106 := (u104.2 63 4 (by omega))
                    have tr107 := (u104.2 63 5 (by omega))
                    have tr108 := (u104.2 63 9 (by omega))
                    have tr109 := (u104.2 63 35 (by omega))
                    have tr110 := (u104.2 63 42 (by omega))
                    have tr111 := (u104.2 63 43 (by omega))
                    have tr112 := (u104.2 63 45 (by omega))
                    have hpp := (v95p.2.2.2.resolve_left (by omega)).2.2.2 _ _ (by rw [v103e]; exact u104) (by omega)
                    refine s_iconst (v := 0) kx_196_311 (by decide) ?_
                    have hk113 : M104 63 9 = v100 := ((u104.2 63 9 (by omega)).trans v100e)
                    exact s_iret kx_196_312 (Or.inr ⟨kq_196, by omega⟩) ⟨_, _, rfl, rfl, hI104, hFm104, ⟨by omega, by omega, (LXp.up v95p.1 u104 (Or.inl (by decide))), (by omega), (by omega), ⟨(Or.inr ⟨by omega, Or.inr ⟨rfl, PI.to7 hpp (by omega)⟩⟩), (KP.up (KP.fr (KP.fr (KP.fr (KP.up (KP.fr (KP.refl (M := M)) fr2 (fun _ => rfl)) u27 (by decide)) fr56 (fun _ => rfl)) fr64 (fun _ => rfl)) fr96 (fun _ => rfl)) u104 (by decide))⟩⟩⟩
              · replace v73p := v73p.resolve_left (by omega)
                refine s_aload_n kx_196_267 rfl ?_
                refine s_iconst (v := 1) kx_196_268 (by decide) ?_
                refine s_aload_n kx_196_269 rfl ?_
                refine r_getI (k := 63) (f := 4) kx_196_270 kp_196_23 (tk_63 hT) kf_12_4 (fun _ => rfl) (rg_63_4 hI64) (fun v114 v114e v114a v114b => ?_)
                refine s_callV2 (k := 63) (s1 := 3) (s2 := 0) (as := [(0, v114), (0, 1)]) (rest := []) kx_196_273 kp_196_263 (Or.inl rfl) rfl (tk_63 hT) ki_176 kcl_176 rfl rfl (by decide) (m_176 (d := d + 2) (kind := 1) (place := v114) hT hI64 (by omega)) (kV (fun M116 hI116 fr116 v115p => ?_))
                have hFm116 := hFm64.call fr116 rfl
                have tr117 := (fr116 63 3 rfl)
                have tr118 := (fr116 63 4 rfl)
                have tr119 := (fr116 63 5 rfl)
                have tr120 := (fr116 63 35 rfl)
                have tr121 := (fr116 63 42 rfl)
                have tr122 := (fr116 63 43 rfl)
                have tr123 := (fr116 63 45 rfl)
                have tr124 := rg_63_9 hI116
                refine s_aload_n kx_196_276 rfl ?_
                refine s_iload_n kx_196_277 rfl ?_
                refine s_bipush (v := 23) kx_196_278 (by decide) ?_
                refine s_icmp_ne (t := 288) kx_196_280 (by decide) (fun hc125 => ?_) (fun hc125 => ?_)
                · refine s_iconst (v := 3) kx_196_288 (by decide) ?_
                  refine s_callV2 (k := 63) (s1 := 2) (s2 := 0) (as := [(0, 3)]) (rest := []) kx_196_289 kp_196_367 (Or.inl rfl) rfl (tk_63 hT) ki_194 kcl_194 rfl rfl (by decide) (m_194 (d := d) (kind := 3) hT hI116 (LXp.fr (LXp.fr (show LXp M56 from v55p.2) fr64 rfl) fr116 rfl) (PI.fr (PI.fr (PI.fr hP37 fr56 rfl) fr64 rfl) fr116 rfl) (B0.fr (B0.fr (B0.fr hB36 fr56 rfl (fun _ => rfl)) fr64 rfl (fun _ => rfl)) fr116 rfl (fun _ => rfl)) (by omega)) (kV (fun M127 hI127 fr127 v126p => ?_))
                  have hFm127 := hFm116.call fr127 rfl
                  have tr128 := (fr127 63 35 rfl)
                  have tr129 := (fr127 63 45 rfl)
                  have tr130 := rg_63_9 hI127
                  refine s_aload_n kx_196_292 rfl ?_
                  refine r_getI (k := 63) (f := 9) kx_196_293 kp_196_39 (tk_63 hT) kf_12_9 (fun _ => rfl) (rg_63_9 hI127) (fun v131 v131e v131a v131b => ?_)
                  refine s_if_ne (t := 311) kx_196_296 (by decide) (fun hc132 => ?_) (fun hc132 => ?_)
                  · refine s_iconst (v := 0) kx_196_311 (by decide) ?_
                    have hk133 : M127 63 9 = v131 := v131e
                    exact s_iret kx_196_312 (Or.inr ⟨kq_196, by omega⟩) ⟨_, _, rfl, rfl, hI127, hFm127, ⟨by omega, by omega, v126p.1, (by omega), (by omega), ⟨(Or.inl (by omega)), (KP.fr (KP.fr (KP.fr (KP.fr (KP.up (KP.fr (KP.refl (M := M)) fr2 (fun _ => rfl)) u27 (by decide)) fr56 (fun _ => rfl)) fr64 (fun _ => rfl)) fr116 (fun _ => rfl)) fr127 (fun _ => rfl))⟩⟩⟩
                  · refine s_aload_n kx_196_299 rfl ?_
                    refine r_getR (k := 63) (f := 40) (k2 := 88) kx_196_300 kp_196_134 (tk_63 hT) kf_12_40 (by decide) (rq_63_40 hI127) ?_
                    refine s_aload_n kx_196_303 rfl ?_
                    refine r_getI (k := 63) (f := 42) kx_196_304 kp_196_140 (tk_63 hT) kf_12_42 (fun _ => rfl) (rg_63_42 hI127) (fun v134 v134e v134a v134b => ?_)
                    refine s_iconst (v := 1) kx_196_307 (by decide) ?_
                    refine r_sub kx_196_308 ⟨by omega, by omega⟩ ?_
                    refine s_iload_n kx_196_309 rfl ?_
                    refine r_ast (k := 88) kx_196_310 (tk_88 hT) ⟨by omega, by omega⟩ hI127 (ru_88 (by omega) (by omega)) (fun M135 hI135 u135 => ?_)
                    have hFm135 := hFm127.up u135 rfl
                    have tr136 := (u135.2 63 3 (by omega))
                    have tr137 := (u135.2 63 4 (by omega))
                    have tr138 := (u135.2 63 5 (by omega))
                    have tr139 := (u135.2 63 9 (by omega))
                    have tr140 := (u135.2 63 35 (by omega))
                    have tr141 := (u135.2 63 42 (by omega))
                    have tr142 := (u135.2 63 43 (by omega))
                    have tr143 := (u135.2 63 45 (by omega))
                    have hpp := (v126p.2.2.2.resolve_left (by omega)).2.2.2 _ _ (by rw [v134e]; exact u135) (by omega)
                    refine s_iconst (v := 0) kx_196_311 (by decide) ?_
                    have hk144 : M135 63 9 = v131 := ((u135.2 63 9 (by omega)).trans v131e)
                    exact s_iret kx_196_312 (Or.inr ⟨kq_196, by omega⟩) ⟨_, _, rfl, rfl, hI135, hFm135, ⟨by omega, by omega, (LXp.up v126p.1 u135 (Or.inl (by decide))), (by omega), (by omega), ⟨(Or.inr ⟨by omega, Or.inr ⟨rfl, PI.to7 hpp (by omega)⟩⟩), (KP.up (KP.fr (KP.fr (KP.fr (KP.fr (KP.up (KP.fr (KP.refl (M := M)) fr2 (fun _ => rfl)) u27 (by decide)) fr56 (fun _ => rfl)) fr64 (fun _ => rfl)) fr116 (fun _ => rfl)) fr127 (fun _ => rfl)) u135 (by decide))⟩⟩⟩
                · refine s_bipush (v := 6) kx_196_283 (by decide) ?_
                  refine s_goto (t := 289) kx_196_285 (by decide) ?_
                  refine s_callV2 (k := 63) (s1 := 2) (s2 := 0) (as := [(0, 6)]) (rest := []) kx_196_289 kp_196_367 (Or.inl rfl) rfl (tk_63 hT) ki_194 kcl_194 rfl rfl (by decide) (m_194 (d := d) (kind := 6) hT hI116 (LXp.fr (LXp.fr (show LXp M56 from v55p.2) fr64 rfl) fr116 rfl) (PI.fr (PI.fr (PI.fr hP37 fr56 rfl) fr64 rfl) fr116 rfl) (B0.fr (B0.fr (B0.fr hB36 fr56 rfl (fun _ => rfl)) fr64 rfl (fun _ => rfl)) fr116 rfl (fun _ => rfl)) (by omega)) (kV (fun M146 hI146 fr146 v145p => ?_))
                  have hFm146 := hFm116.call fr146 rfl
                  have tr147 := (fr146 63 35 rfl)
                  have tr148 := (fr146 63 45 rfl)
                  have tr149 := rg_63_9 hI146
                  refine s_aload_n kx_196_292 rfl ?_
                  refine r_getI (k := 63) (f := 9) kx_196_293 kp_196_39 (tk_63 hT) kf_12_9 (fun _ => rfl) (rg_63_9 hI146) (fun v150 v150e v150a v150b => ?_)
                  refine s_if_ne (t := 311) kx_196_296 (by decide) (fun hc151 => ?_) (fun hc151 => ?_)
                  · refine s_iconst (v := 0) kx_196_311 (by decide) ?_
                    have hk152 : M146 63 9 = v150 := v150e
                    exact s_iret kx_196_312 (Or.inr ⟨kq_196, by omega⟩) ⟨_, _, rfl, rfl, hI146, hFm146, ⟨by omega, by omega, v145p.1, (by omega), (by omega), ⟨(Or.inl (by omega)), (KP.fr (KP.fr (KP.fr (KP.fr (KP.up (KP.fr (KP.refl (M := M)) fr2 (fun _ => rfl)) u27 (by decide)) fr56 (fun _ => rfl)) fr64 (fun _ => rfl)) fr116 (fun _ => rfl)) fr146 (fun _ => rfl))⟩⟩⟩
                  · refine s_aload_n kx_196_299 rfl ?_
                    refine r_getR (k := 63) (f := 40) (k2 := 88) kx_196_300 kp_196_134 (tk_63 hT) kf_12_40 (by decide) (rq_63_40 hI146) ?_
                    refine s_aload_n kx_196_303 rfl ?_
                    refine r_getI (k := 63) (f := 42) kx_196_304 kp_196_140 (tk_63 hT) kf_12_42 (fun _ => rfl) (rg_63_42 hI146) (fun v153 v153e v153a v153b => ?_)
                    refine s_iconst (v := 1) kx_196_307 (by decide) ?_
                    refine r_sub kx_196_308 ⟨by omega, by omega⟩ ?_
                    refine s_iload_n kx_196_309 rfl ?_
                    refine r_ast (k := 88) kx_196_310 (tk_88 hT) ⟨by omega, by omega⟩ hI146 (ru_88 (by omega) (by omega)) (fun M154 hI154 u154 => ?_)
                    have hFm154 := hFm146.up u154 rfl
                    have tr155 := (u154.2 63 3 (by omega))
                    have tr156 := (u154.2 63 4 (by omega))
                    have tr157 := (u154.2 63 5 (by omega))
                    have tr158 := (u154.2 63 9 (by omega))
                    have tr159 := (u154.2 63 35 (by omega))
                    have tr160 := (u154.2 63 42 (by omega))
                    have tr161 := (u154.2 63 43 (by omega))
                    have tr162 := (u154.2 63 45 (by omega))
                    have hpp := (v145p.2.2.2.resolve_left (by omega)).2.2.2 _ _ (by rw [v153e]; exact u154) (by omega)
                    refine s_iconst (v := 0) kx_196_311 (by decide) ?_
                    have hk163 : M154 63 9 = v150 := ((u154.2 63 9 (by omega)).trans v150e)
                    exact s_iret kx_196_312 (Or.inr ⟨kq_196, by omega⟩) ⟨_, _, rfl, rfl, hI154, hFm154, ⟨by omega, by omega, (LXp.up v145p.1 u154 (Or.inl (by decide))), (by omega), (by omega), ⟨(Or.inr ⟨by omega, Or.inr ⟨rfl, PI.to7 hpp (by omega)⟩⟩), (KP.up (KP.fr (KP.fr (KP.fr (KP.fr (KP.up (KP.fr (KP.refl (M := M)) fr2 (fun _ => rfl)) u27 (by decide)) fr56 (fun _ => rfl)) fr64 (fun _ => rfl)) fr116 (fun _ => rfl)) fr146 (fun _ => rfl)) u154 (by decide))⟩⟩⟩
            refine s_if_eq (t := 232) kx_196_224 (by decide) (fun hc45 => ?_) (fun hc45 => ?_)
            · have hJ46 : Fr fS_196_j224 M27 M27 := Fr.refl
              replace v44p := v44p.resolve_left (by omega)
              refine s_aload_n kx_196_232 rfl ?_
              refine s_ldc2_w kx_196_233 kp_196_335 ?_
              refine s_callV2 (k := 63) (s1 := 3) (s2 := 0) (as := [(1, 7168376)]) (rest := []) kx_196_236 kp_196_361 (Or.inl rfl) rfl (tk_63 hT) ki_182 kcl_182 rfl rfl (by decide) (m_182 (d := d + 2) (w := 7168376) hT hI27) (kF (fun v47 v47p => ?_))
              refine s_if_eq (t := 247) kx_196_239 (by decide) (fun hc48 => ?_) (fun hc48 => ?_)
              · replace v47p := v47p.resolve_left (by omega)
                refine s_bipush (v := 23) kx_196_247 (by decide) ?_
                exact cP.wk (lS1 rfl lS0) (jn51 23 (by omega) (by omega) (by omega))
              · replace v47p := v47p.resolve_right (by omega)
                refine s_bipush (v := 16) kx_196_242 (by decide) ?_
                refine s_goto (t := 249) kx_196_244 (by decide) ?_
                exact cP.wk (lS1 rfl lS0) (jn51 16 (by omega) (by omega) (by omega))
            · have hJ49 : Fr fS_196_j224 M27 M27 := Fr.refl
              replace v44p := v44p.resolve_right (by omega)
              refine s_bipush (v := 15) kx_196_227 (by decide) ?_
              refine s_goto (t := 249) kx_196_229 (by decide) ?_
              exact cP.wk (lS1 rfl lS0) (jn51 15 (by omega) (by omega) (by omega))
          · replace v42p := v42p.resolve_left (by omega)
            refine s_aload_n kx_196_197 rfl ?_
            refine s_ldc2_w kx_196_198 kp_196_335 ?_
            refine s_callV2 (k := 63) (s1 := 3) (s2 := 0) (as := [(1, 7168376)]) (rest := []) kx_196_201 kp_196_361 (Or.inl rfl) rfl (tk_63 hT) ki_182 kcl_182 rfl rfl (by decide) (m_182 (d := d + 2) (w := 7168376) hT hI27) (kF (fun v164 v164p => ?_))
            refine s_if_ne (t := 217) kx_196_204 (by decide) (fun hc165 => ?_) (fun hc165 => ?_)
            · replace v164p := v164p.resolve_right (by omega)
              refine s_aload_n kx_196_217 rfl ?_
              refine s_ldc2_w kx_196_218 kp_196_333 ?_
              refine s_callV2 (k := 63) (s1 := 3) (s2 := 0) (as := [(1, 7170414)]) (rest := []) kx_196_221 kp_196_361 (Or.inl rfl) rfl (tk_63 hT) ki_182 kcl_182 rfl rfl (by decide) (m_182 (d := d + 2) (w := 7170414) hT hI27) (kF (fun v166 v166p => ?_))
              have jn173 : ∀ (y172 : Int), (15 ≤ y172) → (y172 ≤ 23) → ((y172 = 15 ∨ y172 = 16 ∨ y172 = 23)) → cP k_P xs Ln (d + 3) 196 249 [(0, rf 63)] [(0, y172)] (T, M27) (qW T M fS_196_m 0 (fun v M1 => 0 ≤ v ∧ v ≤ 1 ∧ (LXp M1 ∧ M 63 4 ≤ M1 63 4 ∧ M 63 9 ≤ M1 63 9 ∧ (OPd M M1 c a v ∧ KP M M1)))) := by
                intro y172 a174 a175 a176
                refine s_istore_n kx_196_249 km_196_3 rfl ?_
                refine s_aload_n kx_196_250 rfl ?_
                refine s_callV2 (k := 63) (s1 := 1) (s2 := 0) (as := []) (rest := []) kx_196_251 kp_196_286 (Or.inl rfl) rfl (tk_63 hT) ki_180 kcl_180 rfl rfl (by decide) (m_180 (d := d + 1) hT hI27) (kV (fun M178 hI178 fr178 v177p => ?_))
                have hFm178 := hFm27.call fr178 rfl
                have tr179 := (fr178 63 9 rfl)
                have tr180 := (fr178 63 35 rfl)
                have tr181 := (fr178 63 42 rfl)
                have tr182 := (fr178 63 43 rfl)
                have tr183 := (fr178 63 45 rfl)
                have tr184 := rg_63_9 hI178
                refine s_aload_n kx_196_254 rfl ?_
                refine s_callV2 (k := 63) (s1 := 1) (s2 := 0) (as := []) (rest := []) kx_196_255 kp_196_280 (Or.inl rfl) rfl (tk_63 hT) ki_179 kcl_179 rfl rfl (by decide) (m_179 (d := d + 1) hT hI178) (kV (fun M186 hI186 fr186 v185p => ?_))
                have hFm186 := hFm178.call fr186 rfl
                have tr187 := (fr186 63 3 rfl)
                have tr188 := (fr186 63 4 rfl)
                have tr189 := (fr186 63 5 rfl)
                have tr190 := (fr186 63 35 rfl)
                have tr191 := (fr186 63 42 rfl)
                have tr192 := (fr186 63 43 rfl)
                have tr193 := (fr186 63 45 rfl)
                have tr194 := rg_63_9 hI186
                refine s_aload_n kx_196_258 rfl ?_
                refine s_bipush (v := 40) kx_196_259 (by decide) ?_
                refine s_callV2 (k := 63) (s1 := 2) (s2 := 0) (as := [(0, 40)]) (rest := []) kx_196_261 kp_196_283 (Or.inl rfl) rfl (tk_63 hT) ki_181 kcl_181 rfl rfl (by decide) (m_181 (d := d + 2) (c := 40) hT hI186) (kF (fun v195 v195p => ?_))
                refine s_if_ne (t := 276) kx_196_264 (by decide) (fun hc196 => ?_) (fun hc196 => ?_)
                · replace v195p := v195p.resolve_right (by omega)
                  refine s_aload_n kx_196_276 rfl ?_
                  refine s_iload_n kx_196_277 rfl ?_
                  refine s_bipush (v := 23) kx_196_278 (by decide) ?_
                  refine s_icmp_ne (t := 288) kx_196_280 (by decide) (fun hc197 => ?_) (fun hc197 => ?_)
                  · refine s_iconst (v := 3) kx_196_288 (by decide) ?_
                    refine s_callV2 (k := 63) (s1 := 2) (s2 := 0) (as := [(0, 3)]) (rest := []) kx_196_289 kp_196_367 (Or.inl rfl) rfl (tk_63 hT) ki_194 kcl_194 rfl rfl (by decide) (m_194 (d := d) (kind := 3) hT hI186 (LXp.fr (show LXp M178 from v177p.2) fr186 rfl) (PI.fr (PI.fr hP37 fr178 rfl) fr186 rfl) (B0.fr (B0.fr hB36 fr178 rfl (fun _ => rfl)) fr186 rfl (fun _ => rfl)) (by omega)) (kV (fun M199 hI199 fr199 v198p => ?_))
                    have hFm199 := hFm186.call fr199 rfl
                    have tr200 := (fr199 63 35 rfl)
                    have tr201 := (fr199 63 45 rfl)
                    have tr202 := rg_63_9 hI199
                    refine s_aload_n kx_196_292 rfl ?_
                    refine r_getI (k := 63) (f := 9) kx_196_293 kp_196_39 (tk_63 hT) kf_12_9 (fun _ => rfl) (rg_63_9 hI199) (fun v203 v203e v203a v203b => ?_)
                    refine s_if_ne (t := 311) kx_196_296 (by decide) (fun hc204 => ?_) (fun hc204 => ?_)
                    · refine s_iconst (v := 0) kx_196_311 (by decide) ?_
                      have hk205 : M199 63 9 = v203 := v203e
                      exact s_iret kx_196_312 (Or.inr ⟨kq_196, by omega⟩) ⟨_, _, rfl, rfl, hI199, hFm199, ⟨by omega, by omega, v198p.1, (by omega), (by omega), ⟨(Or.inl (by omega)), (KP.fr (KP.fr (KP.fr (KP.up (KP.fr (KP.refl (M := M)) fr2 (fun _ => rfl)) u27 (by decide)) fr178 (fun _ => rfl)) fr186 (fun _ => rfl)) fr199 (fun _ => rfl))⟩⟩⟩
                    · refine s_aload_n kx_196_299 rfl ?_
                      refine r_getR (k := 63) (f := 40) (k2 := 88) kx_196_300 kp_196_134 (tk_63 hT) kf_12_40 (by decide) (rq_63_40 hI199) ?_
                      refine s_aload_n kx_196_303 rfl ?_
                      refine r_getI (k := 63) (f := 42) kx_196_304 kp_196_140 (tk_63 hT) kf_12_42 (fun _ => rfl) (rg_63_42 hI199) (fun v206 v206e v206a v206b => ?_)
                      refine s_iconst (v := 1) kx_196_307 (by decide) ?_
                      refine r_sub kx_196_308 ⟨by omega, by omega⟩ ?_
                      refine s_iload_n kx_196_309 rfl ?_
                      refine r_ast (k := 88) kx_196_310 (tk_88 hT) ⟨by omega, by omega⟩ hI199 (ru_88 (by omega) (by omega)) (fun M207 hI207 u207 => ?_)
                      have hFm207 := hFm199.up u207 rfl
                      have tr208 := (u207.2 63 3 (by omega))
                      have tr209 := (u207.2 63 4 (by omega))
                      have tr210 := (u207.2 63 5 (by omega))
                      have tr211 := (u207.2 63 9 (by omega))
                      have tr212 := (u207.2 63 35 (by omega))
                      have tr213 := (u207.2 63 42 (by omega))
                      have tr214 := (u207.2 63 43 (by omega))
                      have tr215 := (u207.2 63 45 (by omega))
                      have hpp := (v198p.2.2.2.resolve_left (by omega)).2.2.2 _ _ (by rw [v206e]; exact u207) (by omega)
                      refine s_iconst (v := 0) kx_196_311 (by decide) ?_
                      have hk216 : M207 63 9 = v203 := ((u207.2 63 9 (by omega)).trans v203e)
                      exact s_iret kx_196_312 (Or.inr ⟨kq_196, by omega⟩) ⟨_, _, rfl, rfl, hI207, hFm207, ⟨by omega, by omega, (LXp.up v198p.1 u207 (Or.inl (by decide))), (by omega), (by omega), ⟨(Or.inr ⟨by omega, Or.inr ⟨rfl, PI.to7 hpp (by omega)⟩⟩), (KP.up (KP.fr (KP.fr (KP.fr (KP.up (KP.fr (KP.refl (M := M)) fr2 (fun _ => rfl)) u27 (by decide)) fr178 (fun _ => rfl)) fr186 (fun _ => rfl)) fr199 (fun _ => rfl)) u207 (by decide))⟩⟩⟩
                  · refine s_bipush (v := 6) kx_196_283 (by decide) ?_
                    refine s_goto (t := 289) kx_196_285 (by decide) ?_
                    refine s_callV2 (k := 63) (s1 := 2) (s2 := 0) (as := [(0, 6)]) (rest := []) kx_196_289 kp_196_367 (Or.inl rfl) rfl (tk_63 hT) ki_194 kcl_194 rfl rfl (by decide) (m_194 (d := d) (kind := 6) hT hI186 (LXp.fr (show LXp M178 from v177p.2) fr186 rfl) (PI.fr (PI.fr hP37 fr178 rfl) fr186 rfl) (B0.fr (B0.fr hB36 fr178 rfl (fun _ => rfl)) fr186 rfl (fun _ => rfl)) (by omega)) (kV (fun M218 hI218 fr218 v217p => ?_))
                    have hFm218 := hFm186.call fr218 rfl
                    have tr219 := (fr218 63 35 rfl)
                    have tr220 := (fr218 63 45 rfl)
                    have tr221 := rg_63_9 hI218
                    refine s_aload_n kx_196_292 rfl ?_
                    refine r_getI (k := 63) (f := 9) kx_196_293 kp_196_39 (tk_63 hT) kf_12_9 (fun _ => rfl) (rg_63_9 hI218) (fun v222 v222e v222a v222b => ?_)
                    refine s_if_ne (t := 311) kx_196_296 (by decide) (fun hc223 => ?_) (fun hc223 => ?_)
                    · refine s_iconst (v := 0) kx_196_311 (by decide) ?_
                      have hk224 : M218 63 9 = v222 := v222e
                      exact s_iret kx_196_312 (Or.inr ⟨kq_196, by omega⟩) ⟨_, _, rfl, rfl, hI218, hFm218, ⟨by omega, by omega, v217p.1, (by omega), (by omega), ⟨(Or.inl (by omega)), (KP.fr (KP.fr (KP.fr (KP.up (KP.fr (KP.refl (M := M)) fr2 (fun _ => rfl)) u27 (by decide)) fr178 (fun _ => rfl)) fr186 (fun _ => rfl)) fr218 (fun _ => rfl))⟩⟩⟩
                    · refine s_aload_n kx_196_299 rfl ?_
                      refine r_getR (k := 63) (f := 40) (k2 := 88) kx_196_300 kp_196_134 (tk_63 hT) kf_12_40 (by decide) (rq_63_40 hI218) ?_
                      refine s_aload_n kx_196_303 rfl ?_
                      refine r_getI (k := 63) (f := 42) kx_196_304 kp_196_140 (tk_63 hT) kf_12_42 (fun _ => rfl) (rg_63_42 hI218) (fun v225 v225e v225a v225b => ?_)
                      refine s_iconst (v := 1) kx_196_307 (by decide) ?_
                      refine r_sub kx_196_308 ⟨by omega, by omega⟩ ?_
                      refine s_iload_n kx_196_309 rfl ?_
                      refine r_ast (k := 88) kx_196_310 (tk_88 hT) ⟨by omega, by omega⟩ hI218 (ru_88 (by omega) (by omega)) (fun M226 hI226 u226 => ?_)
                      have hFm226 := hFm218.up u226 rfl
                      have tr227 := (u226.2 63 3 (by omega))
                      have tr228 := (u226.2 63 4 (by omega))
                      have tr229 := (u226.2 63 5 (by omega))
                      have tr230 := (u226.2 63 9 (by omega))
                      have tr231 := (u226.2 63 35 (by omega))
                      have tr232 := (u226.2 63 42 (by omega))
                      have tr233 := (u226.2 63 43 (by omega))
                      have tr234 := (u226.2 63 45 (by omega))
                      have hpp := (v217p.2.2.2.resolve_left (by omega)).2.2.2 _ _ (by rw [v225e]; exact u226) (by omega)
                      refine s_iconst (v := 0) kx_196_311 (by decide) ?_
                      have hk235 : M226 63 9 = v222 := ((u226.2 63 9 (by omega)).trans v222e)
                      exact s_iret kx_196_312 (Or.inr ⟨kq_196, by omega⟩) ⟨_, _, rfl, rfl, hI226, hFm226, ⟨by omega, by omega, (LXp.up v217p.1 u226 (Or.inl (by decide))), (by omega), (by omega), ⟨(Or.inr ⟨by omega, Or.inr ⟨rfl, PI.to7 hpp (by omega)⟩⟩), (KP.up (KP.fr (KP.fr (KP.fr (KP.up (KP.fr (KP.refl (M := M)) fr2 (fun _ => rfl)) u27 (by decide)) fr178 (fun _ => rfl)) fr186 (fun _ => rfl)) fr218 (fun _ => rfl)) u226 (by decide))⟩⟩⟩
                · replace v195p := v195p.resolve_left (by omega)
                  refine s_aload_n kx_196_267 rfl ?_
                  refine s_iconst (v := 1) kx_196_268 (by decide) ?_
                  refine s_aload_n kx_196_269 rfl ?_
                  refine r_getI (k := 63) (f := 4) kx_196_270 kp_196_23 (tk_63 hT) kf_12_4 (fun _ => rfl) (rg_63_4 hI186) (fun v236 v236e v236a v236b => ?_)
                  refine s_callV2 (k := 63) (s1 := 3) (s2 := 0) (as := [(0, v236), (0, 1)]) (rest := []) kx_196_273 kp_196_263 (Or.inl rfl) rfl (tk_63 hT) ki_176 kcl_176 rfl rfl (by decide) (m_176 (d := d + 2) (kind := 1) (place := v236) hT hI186 (by omega)) (kV (fun M238 hI238 fr238 v237p => ?_))
                  have hFm238 := hFm186.call fr238 rfl
                  have tr239 := (fr238 63 3 rfl)
                  have tr240 := (fr238 63 4 rfl)
                  have tr241 := (fr238 63 5 rfl)
                  have tr242 := (fr238 63 35 rfl)
                  have tr243 := (fr238 63 42 rfl)
                  have tr244 := (fr238 63 43 rfl)
                  have tr245 := (fr238 63 45 rfl)
                  have tr246 := rg_63_9 hI238
                  refine s_aload_n kx_196_276 rfl ?_
                  refine s_iload_n kx_196_277 rfl ?_
                  refine s_bipush (v := 23) kx_196_278 (by decide) ?_
                  refine s_icmp_ne (t := 288) kx_196_280 (by decide) (fun hc247 => ?_) (fun hc247 => ?_)
                  · refine s_iconst (v := 3) kx_196_288 (by decide) ?_
                    refine s_callV2 (k := 63) (s1 := 2) (s2 := 0) (as := [(0, 3)]) (rest := []) kx_196_289 kp_196_367 (Or.inl rfl) rfl (tk_63 hT) ki_194 kcl_194 rfl rfl (by decide) (m_194 (d := d) (kind := 3) hT hI238 (LXp.fr (LXp.fr (show LXp M178 from v177p.2) fr186 rfl) fr238 rfl) (PI.fr (PI.fr (PI.fr hP37 fr178 rfl) fr186 rfl) fr238 rfl) (B0.fr (B0.fr (B0.fr hB36 fr178 rfl (fun _ => rfl)) fr186 rfl (fun _ => rfl)) fr238 rfl (fun _ => rfl)) (by omega)) (kV (fun M249 hI249 fr249 v248p => ?_))
                    have hFm249 := hFm238.call fr249 rfl
                    have tr250 := (fr249 63 35 rfl)
                    have tr251 := (fr249 63 45 rfl)
                    have tr252 := rg_63_9 hI249
                    refine s_aload_n kx_196_292 rfl ?_
                    refine r_getI (k := 63) (f := 9) kx_196_293 kp_196_39 (tk_63 hT) kf_12_9 (fun _ => rfl) (rg_63_9 hI249) (fun v253 v253e v253a v253b => ?_)
                    refine s_if_ne (t := 311) kx_196_296 (by decide) (fun hc254 => ?_) (fun hc254 => ?_)
                    · refine s_iconst (v := 0) kx_196_311 (by decide) ?_
                      have hk255 : M249 63 9 = v253 := v253e
                      exact s_iret kx_196_312 (Or.inr ⟨kq_196, by omega⟩) ⟨_, _, rfl, rfl, hI249, hFm249, ⟨by omega, by omega, v248p.1, (by omega), (by omega), ⟨(Or.inl (by omega)), (KP.fr (KP.fr (KP.fr (KP.fr (KP.up (KP.fr (KP.refl (M := M)) fr2 (fun _ => rfl)) u27 (by decide)) fr178 (fun _ => rfl)) fr186 (fun _ => rfl)) fr238 (fun _ => rfl)) fr249 (fun _ => rfl))⟩⟩⟩
                    · refine s_aload_n kx_196_299 rfl ?_
                      refine r_getR (k := 63) (f := 40) (k2 := 88) kx_196_300 kp_196_134 (tk_63 hT) kf_12_40 (by decide) (rq_63_40 hI249) ?_
                      refine s_aload_n kx_196_303 rfl ?_
                      refine r_getI (k := 63) (f := 42) kx_196_304 kp_196_140 (tk_63 hT) kf_12_42 (fun _ => rfl) (rg_63_42 hI249) (fun v256 v256e v256a v256b => ?_)
                      refine s_iconst (v := 1) kx_196_307 (by decide) ?_
                      refine r_sub kx_196_308 ⟨by omega, by omega⟩ ?_
                      refine s_iload_n kx_196_309 rfl ?_
                      refine r_ast (k := 88) kx_196_310 (tk_88 hT) ⟨by omega, by omega⟩ hI249 (ru_88 (by omega) (by omega)) (fun M257 hI257 u257 => ?_)
                      have hFm257 := hFm249.up u257 rfl
                      have tr258 := (u257.2 63 3 (by omega))
                      have tr259 := (u257.2 63 4 (by omega))
                      have tr260 := (u257.2 63 5 (by omega))
                      have tr261 := (u257.2 63 9 (by omega))
                      have tr262 := (u257.2 63 35 (by omega))
                      have tr263 := (u257.2 63 42 (by omega))
                      have tr264 := (u257.2 63 43 (by omega))
                      have tr265 := (u257.2 63 45 (by omega))
                      have hpp := (v248p.2.2.2.resolve_left (by omega)).2.2.2 _ _ (by rw [v256e]; exact u257) (by omega)
                      refine s_iconst (v := 0) kx_196_311 (by decide) ?_
                      have hk266 : M257 63 9 = v253 := ((u257.2 63 9 (by omega)).trans v253e)
                      exact s_iret kx_196_312 (Or.inr ⟨kq_196, by omega⟩) ⟨_, _, rfl, rfl, hI257, hFm257, ⟨by omega, by omega, (LXp.up v248p.1 u257 (Or.inl (by decide))), (by omega), (by omega), ⟨(Or.inr ⟨by omega, Or.inr ⟨rfl, PI.to7 hpp (by omega)⟩⟩), (KP.up (KP.fr (KP.fr (KP.fr (KP.fr (KP.up (KP.fr (KP.refl (M := M)) fr2 (fun _ => rfl)) u27 (by decide)) fr178 (fun _ => rfl)) fr186 (fun _ => rfl)) fr238 (fun _ => rfl)) fr249 (fun _ => rfl)) u257 (by decide))⟩⟩⟩
                  · refine s_bipush (v := 6) kx_196_283 (by decide) ?_
                    refine s_goto (t := 289) kx_196_285 (by decide) ?_
                    refine s_callV2 (k := 63) (s1 := 2) (s2 := 0) (as := [(0, 6)]) (rest := []) kx_196_289 kp_196_367 (Or.inl rfl) rfl (tk_63 hT) ki_194 kcl_194 rfl rfl (by decide) (m_194 (d := d) (kind := 6) hT hI238 (LXp.fr (LXp.fr (show LXp M178 from v177p.2) fr186 rfl) fr238 rfl) (PI.fr (PI.fr (PI.fr hP37 fr178 rfl) fr186 rfl) fr238 rfl) (B0.fr (B0.fr (B0.fr hB36 fr178 rfl (fun _ => rfl)) fr186 rfl (fun _ => rfl)) fr238 rfl (fun _ => rfl)) (by omega)) (kV (fun M268 hI268 fr268 v267p => ?_))
                    have hFm268 := hFm238.call fr268 rfl
                    have tr269 := (fr268 63 35 rfl)
                    have tr270 := (fr268 63 45 rfl)
                    have tr271 := rg_63_9 hI268
                    refine s_aload_n kx_196_292 rfl ?_
                    refine r_getI (k := 63) (f := 9) kx_196_293 kp_196_39 (tk_63 hT) kf_12_9 (fun _ => rfl) (rg_63_9 hI268) (fun v272 v272e v272a v272b => ?_)
                    refine s_if_ne (t := 311) kx_196_296 (by decide) (fun hc273 => ?_) (fun hc273 => ?_)
                    · refine s_iconst (v := 0) kx_196_311 (by decide) ?_
                      have hk274 : M268 63 9 = v272 := v272e
                      exact s_iret kx_196_312 (Or.inr ⟨kq_196, by omega⟩) ⟨_, _, rfl, rfl, hI268, hFm268, ⟨by omega, by omega, v267p.1, (by omega), (by omega), ⟨(Or.inl (by omega)), (KP.fr (KP.fr (KP.fr (KP.fr (KP.up (KP.fr (KP.refl (M := M)) fr2 (fun _ => rfl)) u27 (by decide)) fr178 (fun _ => rfl)) fr186 (fun _ => rfl)) fr238 (fun _ => rfl)) fr268 (fun _ => rfl))⟩⟩⟩
                    · refine s_aload_n kx_196_299 rfl ?_
                      refine r_getR (k := 63) (f := 40) (k2 := 88) kx_196_300 kp_196_134 (tk_63 hT) kf_12_40 (by decide) (rq_63_40 hI268) ?_
                      refine s_aload_n kx_196_303 rfl ?_
                      refine r_getI (k := 63) (f := 42) kx_196_304 kp_196_140 (tk_63 hT) kf_12_42 (fun _ => rfl) (rg_63_42 hI268) (fun v275 v275e v275a v275b => ?_)
                      refine s_iconst (v := 1) kx_196_307 (by decide) ?_
                      refine r_sub kx_196_308 ⟨by omega, by omega⟩ ?_
                      refine s_iload_n kx_196_309 rfl ?_
                      refine r_ast (k := 88) kx_196_310 (tk_88 hT) ⟨by omega, by omega⟩ hI268 (ru_88 (by omega) (by omega)) (fun M276 hI276 u276 => ?_)
                      have hFm276 := hFm268.up u276 rfl
                      have tr277 := (u276.2 63 3 (by omega))
                      have tr278 := (u276.2 63 4 (by omega))
                      have tr279 := (u276.2 63 5 (by omega))
                      have tr280 := (u276.2 63 9 (by omega))
                      have tr281 := (u276.2 63 35 (by omega))
                      have tr282 := (u276.2 63 42 (by omega))
                      have tr283 := (u276.2 63 43 (by omega))
                      have tr284 := (u276.2 63 45 (by omega))
                      have hpp := (v267p.2.2.2.resolve_left (by omega)).2.2.2 _ _ (by rw [v275e]; exact u276) (by omega)
                      refine s_iconst (v := 0) kx_196_311 (by decide) ?_
                      have hk285 : M276 63 9 = v272 := ((u276.2 63 9 (by omega)).trans v272e)
                      exact s_iret kx_196_312 (Or.inr ⟨kq_196, by omega⟩) ⟨_, _, rfl, rfl, hI276, hFm276, ⟨by omega, by omega, (LXp.up v267p.1 u276 (Or.inl (by decide))), (by omega), (by omega), ⟨(Or.inr ⟨by omega, Or.inr ⟨rfl, PI.to7 hpp (by omega)⟩⟩), (KP.up (KP.fr (KP.fr (KP.fr (KP.fr (KP.up (KP.fr (KP.refl (M := M)) fr2 (fun _ => rfl)) u27 (by decide)) fr178 (fun _ => rfl)) fr186 (fun _ => rfl)) fr238 (fun _ => rfl)) fr268 (fun _ => rfl)) u276 (by decide))⟩⟩⟩
              refine s_if_eq (t := 232) kx_196_224 (by decide) (fun hc167 => ?_) (fun hc167 => ?_)
              · have hJ168 : Fr fS_196_j224 M27 M27 := Fr.refl
                replace v166p := v166p.resolve_left (by omega)
                refine s_aload_n kx_196_232 rfl ?_
                refine s_ldc2_w kx_196_233 kp_196_335 ?_
                refine s_callV2 (k := 63) (s1 := 3) (s2 := 0) (as := [(1, 7168376)]) (rest := []) kx_196_236 kp_196_361 (Or.inl rfl) rfl (tk_63 hT) ki_182 kcl_182 rfl rfl (by decide) (m_182 (d := d + 2) (w := 7168376) hT hI27) (kF (fun v169 v169p => ?_))
                refine s_if_eq (t := 247) kx_196_239 (by decide) (fun hc170 => ?_) (fun hc170 => ?_)
                · replace v169p := v169p.resolve_left (by omega)
                  refine s_bipush (v := 23) kx_196_247 (by decide) ?_
                  exact cP.wk (lS1 rfl lS0) (jn173 23 (by omega) (by omega) (by omega))
                · replace v169p := v169p.resolve_right (by omega)
                  refine s_bipush (v := 16) kx_196_242 (by decide) ?_
                  refine s_goto (t := 249) kx_196_244 (by decide) ?_
                  exact cP.wk (lS1 rfl lS0) (jn173 16 (by omega) (by omega) (by omega))
              · have hJ171 : Fr fS_196_j224 M27 M27 := Fr.refl
                replace v166p := v166p.resolve_right (by omega)
                refine s_bipush (v := 15) kx_196_227 (by decide) ?_
                refine s_goto (t := 249) kx_196_229 (by decide) ?_
                exact cP.wk (lS1 rfl lS0) (jn173 15 (by omega) (by omega) (by omega))
            · replace v164p := v164p.resolve_left (by omega)
              refine s_aload_n kx_196_207 rfl ?_
              refine s_ldc2_w kx_196_208 kp_196_323 ?_
              refine s_callV2 (k := 63) (s1 := 3) (s2 := 0) (as := [(1, 26982)]) (rest := []) kx_196_211 kp_196_361 (Or.inl rfl) rfl (tk_63 hT) ki_182 kcl_182 rfl rfl (by decide) (m_182 (d := d + 2) (w := 26982) hT hI27) (kF (fun v286 v286p => ?_))
              refine s_if_eq (t := 313) kx_196_214 (by decide) (fun hc287 => ?_) (fun hc287 => ?_)
              · replace v286p := v286p.resolve_left (by omega)
                refine s_aload_n kx_196_313 rfl ?_
                refine r_getI (k := 63) (f := 3) kx_196_314 kp_196_20 (tk_63 hT) kf_12_3 (fun _ => rfl) (rg_63_3 hI27) (fun v288 v288e v288a v288b => ?_)
                have v288z : M 63 3 = v288 := (((u27.2 63 3 (by omega)).trans (fr2 63 3 rfl))).symm.trans v288e
                refine s_iconst (v := 2) kx_196_317 (by decide) ?_
                have jn305 : ∀ (y304 : Int), ((-1) ≤ y304) → (y304 ≤ 6) → ((y304 = -1 ∨ M27 63 3 ≠ 0)) → cP k_P xs Ln (d + 3) 196 411 [(0, rf 63)] [(0, y304)] (T, M27) (qW T M fS_196_m 0 (fun v M1 => 0 ≤ v ∧ v ≤ 1 ∧ (LXp M1 ∧ M 63 4 ≤ M1 63 4 ∧ M 63 9 ≤ M1 63 9 ∧ (OPd M M1 c a v ∧ KP M M1)))) := by
                  intro y304 a306 a307 a308
                  refine s_istore_n kx_196_411 km_196_3 rfl ?_
                  refine s_iload_n kx_196_412 rfl ?_
                  refine s_iconst (v := (-1)) kx_196_413 (by decide) ?_
                  refine s_icmp_ne (t := 426) kx_196_414 (by decide) (fun hc309 => ?_) (fun hc309 => ?_)
                  · refine s_aload_n kx_196_426 rfl ?_
                    refine r_getK (k := 63) (f := 9) kx_196_427 kp_196_39 (tk_63 hT) kf_12_9 (fun _ => rfl) ((u27.2 63 9 (by omega)).trans v11e) ?_
                    refine s_if_le (t := 435) kx_196_430 (by decide) (fun hc310 => ?_) (fun hc310 => absurd hc310 (by omega))
                    refine s_aload_n kx_196_435 rfl ?_
                    refine s_iload_n kx_196_436 rfl ?_
                    refine s_aload_n kx_196_437 rfl ?_
                    refine r_getU (k := 63) (f := 6) kx_196_438 kp_196_29 (tk_63 hT) kf_12_6 (fun _ => rfl) (fun v311 v311e => ?_)
                    have v311z : M 63 6 = v311 := (((u27.2 63 6 (by omega)).trans (fr2 63 6 rfl))).symm.trans v311e
                    refine s_callV2 (k := 63) (s1 := 3) (s2 := 0) (as := [(0, v311), (0, y304)]) (rest := []) kx_196_441 kp_196_352 (Or.inl rfl) rfl (tk_63 hT) ki_189 kcl_189 rfl rfl (by decide) (m_189 (d := d + 2) (sort := y304) (v_ := v311) hT hI27 (by omega) (by omega)) (kV (fun M313 hI313 fr313 v312p => ?_))
                    have hFm313 := hFm27.call fr313 rfl
                    have tr314 := (fr313 63 3 rfl)
                    have tr315 := (fr313 63 4 rfl)
                    have tr316 := (fr313 63 5 rfl)
                    have tr317 := (fr313 63 9 rfl)
                    have tr318 := (fr313 63 42 rfl)
                    have tr319 := (fr313 63 43 rfl)
                    have tr320 := (fr313 63 45 rfl)
                    have tr321 := rg_63_9 hI313
                    have hP322 := PI.codeV hP37 (by omega) (by omega) (by decide) (by decide) fr313 v312p.1 v312p.2.1 v312p.2.2
                    have hK323 := KP.add (KP.up (KP.fr (KP.refl (M := M)) fr2 (fun _ => rfl)) u27 (by decide)) ((u27.2 63 36 (by omega)).trans (fr2 63 36 rfl)) ⟨(rg_63_35 hI27).1, by omega⟩ (rg_63_36 hI27).1 v312p.2.2
                    refine s_aload_n kx_196_444 rfl ?_
                    refine s_callV2 (k := 63) (s1 := 1) (s2 := 0) (as := []) (rest := []) kx_196_445 kp_196_286 (Or.inl rfl) rfl (tk_63 hT) ki_180 kcl_180 rfl rfl (by decide) (m_180 (d := d + 1) hT hI313) (kV (fun M325 hI325 fr325 v324p => ?_))
                    have hFm325 := hFm313.call fr325 rfl
                    have tr326 := (fr325 63 9 rfl)
                    have tr327 := (fr325 63 35 rfl)
                    have tr328 := (fr325 63 42 rfl)
                    have tr329 := (fr325 63 43 rfl)
                    have tr330 := (fr325 63 45 rfl)
                    have tr331 := rg_63_9 hI325
                    refine s_iconst (v := 1) kx_196_448 (by decide) ?_
                    have hk332 : M325 63 9 = v11 := ((fr325 63 9 rfl).trans ((fr313 63 9 rfl).trans ((u27.2 63 9 (by omega)).trans v11e)))
                    exact s_iret kx_196_449 (Or.inr ⟨kq_196, by omega⟩) ⟨_, _, rfl, rfl, hI325, hFm325, ⟨by omega, by omega, (show LXp M325 from v324p.2), (by omega), (by omega), ⟨(Or.inr ⟨by omega, Or.inl ⟨rfl, (B0.fr (B0.fr hB36 fr313 rfl (fun _ => rfl)) fr325 rfl (fun _ => rfl)), PI.to7 (PI.fr hP322 fr325 rfl) (by omega)⟩⟩), (KP.fr hK323 fr325 (fun _ => rfl))⟩⟩⟩
                  · refine s_aload_n kx_196_417 rfl ?_
                    refine s_iconst (v := 1) kx_196_418 (by decide) ?_
                    refine s_aload_n kx_196_419 rfl ?_
                    refine r_getI (k := 63) (f := 4) kx_196_420 kp_196_23 (tk_63 hT) kf_12_4 (fun _ => rfl) (rg_63_4 hI27) (fun v333 v333e v333a v333b => ?_)
                    have v333z : M 63 4 = v333 := (((u27.2 63 4 (by omega)).trans (fr2 63 4 rfl))).symm.trans v333e
                    refine s_callV2 (k := 63) (s1 := 3) (s2 := 0) (as := [(0, v333), (0, 1)]) (rest := []) kx_196_423 kp_196_263 (Or.inl rfl) rfl (tk_63 hT) ki_176 kcl_176 rfl rfl (by decide) (m_176 (d := d + 2) (kind := 1) (place := v333) hT hI27 (by omega)) (kV (fun M335 hI335 fr335 v334p => ?_))
                    have hFm335 := hFm27.call fr335 rfl
                    have tr336 := (fr335 63 3 rfl)
                    have tr337 := (fr335 63 4 rfl)
                    have tr338 := (fr335 63 5 rfl)
                    have tr339 := (fr335 63 35 rfl)
                    have tr340 := (fr335 63 42 rfl)
                    have tr341 := (fr335 63 43 rfl)
                    have tr342 := (fr335 63 45 rfl)
                    have tr343 := rg_63_9 hI335
                    refine s_aload_n kx_196_426 rfl ?_
                    refine r_getI (k := 63) (f := 9) kx_196_427 kp_196_39 (tk_63 hT) kf_12_9 (fun _ => rfl) (rg_63_9 hI335) (fun v344 v344e v344a v344b => ?_)
                    refine s_if_le (t := 435) kx_196_430 (by decide) (fun hc345 => ?_) (fun hc345 => ?_)
                    · refine s_aload_n kx_196_435 rfl ?_
                      refine s_iload_n kx_196_436 rfl ?_
                      refine s_aload_n kx_196_437 rfl ?_
                      refine r_getU (k := 63) (f := 6) kx_196_438 kp_196_29 (tk_63 hT) kf_12_6 (fun _ => rfl) (fun v346 v346e => ?_)
                      have v346z : M 63 6 = v346 := (((fr335 63 6 rfl).trans ((u27.2 63 6 (by omega)).trans (fr2 63 6 rfl)))).symm.trans v346e
                      refine s_callV2 (k := 63) (s1 := 3) (s2 := 0) (as := [(0, v346), (0, y304)]) (rest := []) kx_196_441 kp_196_352 (Or.inl rfl) rfl (tk_63 hT) ki_189 kcl_189 rfl rfl (by decide) (m_189 (d := d + 2) (sort := y304) (v_ := v346) hT hI335 (by omega) (by omega)) (kV (fun M348 hI348 fr348 v347p => ?_))
                      have hFm348 := hFm335.call fr348 rfl
                      have tr349 := (fr348 63 3 rfl)
                      have tr350 := (fr348 63 4 rfl)
                      have tr351 := (fr348 63 5 rfl)
                      have tr352 := (fr348 63 9 rfl)
                      have tr353 := (fr348 63 42 rfl)
                      have tr354 := (fr348 63 43 rfl)
                      have tr355 := (fr348 63 45 rfl)
                      have tr356 := rg_63_9 hI348
                      have hP357 := PI.codeV (PI.fr hP37 fr335 rfl) (by omega) (by omega) (by decide) (by decide) fr348 v347p.1 v347p.2.1 v347p.2.2
                      have hK358 := KP.add (KP.fr (KP.up (KP.fr (KP.refl (M := M)) fr2 (fun _ => rfl)) u27 (by decide)) fr335 (fun _ => rfl)) ((fr335 63 36 rfl).trans ((u27.2 63 36 (by omega)).trans (fr2 63 36 rfl))) ⟨(rg_63_35 hI335).1, by omega⟩ (rg_63_36 hI335).1 v347p.2.2
                      refine s_aload_n kx_196_444 rfl ?_
                      refine s_callV2 (k := 63) (s1 := 1) (s2 := 0) (as := []) (rest := []) kx_196_445 kp_196_286 (Or.inl rfl) rfl (tk_63 hT) ki_180 kcl_180 rfl rfl (by decide) (m_180 (d := d + 1) hT hI348) (kV (fun M360 hI360 fr360 v359p => ?_))
                      have hFm360 := hFm348.call fr360 rfl
                      have tr361 := (fr360 63 9 rfl)
                      have tr362 := (fr360 63 35 rfl)
                      have tr363 := (fr360 63 42 rfl)
                      have tr364 := (fr360 63 43 rfl)
                      have tr365 := (fr360 63 45 rfl)
                      have tr366 := rg_63_9 hI360
                      refine s_iconst (v := 1) kx_196_448 (by decide) ?_
                      have hk367 : M360 63 9 = v344 := ((fr360 63 9 rfl).trans ((fr348 63 9 rfl).trans v344e))
                      exact s_iret kx_196_449 (Or.inr ⟨kq_196, by omega⟩) ⟨_, _, rfl, rfl, hI360, hFm360, ⟨by omega, by omega, (show LXp M360 from v359p.2), (by omega), (by omega), ⟨(Or.inr ⟨by omega, Or.inl ⟨rfl, (B0.fr (B0.fr (B0.fr hB36 fr335 rfl (fun _ => rfl)) fr348 rfl (fun _ => rfl)) fr360 rfl (fun _ => rfl)), PI.to7 (PI.fr hP357 fr360 rfl) (by omega)⟩⟩), (KP.fr hK358 fr360 (fun _ => rfl))⟩⟩⟩
                    · refine s_iconst (v := 1) kx_196_433 (by decide) ?_
                      have hk368 : M335 63 3 = v288 := ((fr335 63 3 rfl).trans v288e)
                      have hk369 : M335 63 4 = v333 := ((fr335 63 4 rfl).trans v333e)
                      have hk370 : M335 63 9 = v344 := v344e
                      exact s_iret kx_196_434 (Or.inr ⟨kq_196, by omega⟩) ⟨_, _, rfl, rfl, hI335, hFm335, ⟨by omega, by omega, (LXp.fr (LXp.up (LXp.fr hX fr2 rfl) u27 (Or.inl (by decide))) fr335 rfl), (by omega), (by omega), ⟨(Or.inl (by omega)), (KP.fr (KP.up (KP.fr (KP.refl (M := M)) fr2 (fun _ => rfl)) u27 (by decide)) fr335 (fun _ => rfl))⟩⟩⟩
                refine s_icmp_ne (t := 325) kx_196_318 (by decide) (fun hc289 => ?_) (fun hc289 => ?_)
                · have hJ290 : Fr fS_196_j318 M27 M27 := Fr.refl
                  refine s_aload_n kx_196_325 rfl ?_
                  refine s_ldc2_w kx_196_326 kp_196_297 ?_
                  refine s_callV2 (k := 63) (s1 := 3) (s2 := 0) (as := [(1, 499850634611)]) (rest := []) kx_196_329 kp_196_361 (Or.inl rfl) rfl (tk_63 hT) ki_182 kcl_182 rfl rfl (by decide) (m_182 (d := d + 2) (w := 499850634611) hT hI27) (kF (fun v291 v291p => ?_))
                  refine s_if_eq (t := 339) kx_196_332 (by decide) (fun hc292 => ?_) (fun hc292 => ?_)
                  · replace v291p := v291p.resolve_left (by omega)
                    refine s_aload_n kx_196_339 rfl ?_
                    refine s_ldc2_w kx_196_340 kp_196_317 ?_
                    refine s_callV2 (k := 63) (s1 := 3) (s2 := 0) (as := [(1, 131277443786868)]) (rest := []) kx_196_343 kp_196_361 (Or.inl rfl) rfl (tk_63 hT) ki_182 kcl_182 rfl rfl (by decide) (m_182 (d := d + 2) (w := 131277443786868) hT hI27) (kF (fun v293 v293p => ?_))
                    refine s_if_eq (t := 353) kx_196_346 (by decide) (fun hc294 => ?_) (fun hc294 => ?_)
                    · replace v293p := v293p.resolve_left (by omega)
                      refine s_aload_n kx_196_353 rfl ?_
                      refine s_ldc2_w kx_196_354 kp_196_301 ?_
                      refine s_callV2 (k := 63) (s1 := 3) (s2 := 0) (as := [(1, 126943973305959)]) (rest := []) kx_196_357 kp_196_361 (Or.inl rfl) rfl (tk_63 hT) ki_182 kcl_182 rfl rfl (by decide) (m_182 (d := d + 2) (w := 126943973305959) hT hI27) (kF (fun v295 v295p => ?_))
                      refine s_if_eq (t := 367) kx_196_360 (by decide) (fun hc296 => ?_) (fun hc296 => ?_)
                      · replace v295p := v295p.resolve_left (by omega)
                        refine s_aload_n kx_196_367 rfl ?_
                        refine s_ldc2_w kx_196_368 kp_196_305 ?_
                        refine s_callV2 (k := 63) (s1 := 3) (s2 := 0) (as := [(1, 2003395685)]) (rest := []) kx_196_371 kp_196_361 (Or.inl rfl) rfl (tk_63 hT) ki_182 kcl_182 rfl rfl (by decide) (m_182 (d := d + 2) (w := 2003395685) hT hI27) (kF (fun v297 v297p => ?_))
                        refine s_if_eq (t := 381) kx_196_374 (by decide) (fun hc298 => ?_) (fun hc298 => ?_)
                        · replace v297p := v297p.resolve_left (by omega)
                          refine s_aload_n kx_196_381 rfl ?_
                          refine s_ldc2_w kx_196_382 kp_196_319 ?_
                          refine s_callV2 (k := 63) (s1 := 3) (s2 := 0) (as := [(1, 427021001579)]) (rest := []) kx_196_385 kp_196_361 (Or.inl rfl) rfl (tk_63 hT) ki_182 kcl_182 rfl rfl (by decide) (m_182 (d := d + 2) (w := 427021001579) hT hI27) (kF (fun v299 v299p => ?_))
                          refine s_if_eq (t := 395) kx_196_388 (by decide) (fun hc300 => ?_) (fun hc300 => ?_)
                          · replace v299p := v299p.resolve_left (by omega)
                            refine s_aload_n kx_196_395 rfl ?_
                            refine s_ldc2_w kx_196_396 kp_196_321 ?_
                            refine s_callV2 (k := 63) (s1 := 3) (s2 := 0) (as := [(1, 7305070)]) (rest := []) kx_196_399 kp_196_361 (Or.inl rfl) rfl (tk_63 hT) ki_182 kcl_182 rfl rfl (by decide) (m_182 (d := d + 2) (w := 7305070) hT hI27) (kF (fun v301 v301p => ?_))
                            refine s_if_eq (t := 410) kx_196_402 (by decide) (fun hc302 => ?_) (fun hc302 => ?_)
                            · replace v301p := v301p.resolve_left (by omega)
                              refine s_iconst (v := (-1)) kx_196_410 (by decide) ?_
                              exact cP.wk (lS1 rfl lS0) (jn305 (-1) (by omega) (by omega) (by omega))
                            · replace v301p := v301p.resolve_right (by omega)
                              refine s_bipush (v := 6) kx_196_405 (by decide) ?_
                              refine s_goto (t := 411) kx_196_407 (by decide) ?_
                              exact cP.wk (lS1 rfl lS0) (jn305 6 (by omega) (by omega) (by omega))
                          · replace v299p := v299p.resolve_right (by omega)
                            refine s_iconst (v := 5) kx_196_391 (by decide) ?_
                            refine s_goto (t := 411) kx_196_392 (by decide) ?_
                            exact cP.wk (lS1 rfl lS0) (jn305 5 (by omega) (by omega) (by omega))
                        · replace v297p := v297p.resolve_right (by omega)
                          refine s_iconst (v := 4) kx_196_377 (by decide) ?_
                          refine s_goto (t := 411) kx_196_378 (by decide) ?_
                          exact cP.wk (lS1 rfl lS0) (jn305 4 (by omega) (by omega) (by omega))
                      · replace v295p := v295p.resolve_right (by omega)
                        refine s_iconst (v := 3) kx_196_363 (by decide) ?_
                        refine s_goto (t := 411) kx_196_364 (by decide) ?_
                        exact cP.wk (lS1 rfl lS0) (jn305 3 (by omega) (by omega) (by omega))
                    · replace v293p := v293p.resolve_right (by omega)
                      refine s_iconst (v := 2) kx_196_349 (by decide) ?_
                      refine s_goto (t := 411) kx_196_350 (by decide) ?_
                      exact cP.wk (lS1 rfl lS0) (jn305 2 (by omega) (by omega) (by omega))
                  · replace v291p := v291p.resolve_right (by omega)
                    refine s_iconst (v := 1) kx_196_335 (by decide) ?_
                    refine s_goto (t := 411) kx_196_336 (by decide) ?_
                    exact cP.wk (lS1 rfl lS0) (jn305 1 (by omega) (by omega) (by omega))
                · have hJ303 : Fr fS_196_j318 M27 M27 := Fr.refl
                  refine s_iconst (v := 0) kx_196_321 (by decide) ?_
                  refine s_goto (t := 411) kx_196_322 (by decide) ?_
                  exact cP.wk (lS1 rfl lS0) (jn305 0 (by omega) (by omega) (by omega))
              · replace v286p := v286p.resolve_right (by omega)
                refine s_aload_n kx_196_217 rfl ?_
                refine s_ldc2_w kx_196_218 kp_196_333 ?_
                refine s_callV2 (k := 63) (s1 := 3) (s2 := 0) (as := [(1, 7170414)]) (rest := []) kx_196_221 kp_196_361 (Or.inl rfl) rfl (tk_63 hT) ki_182 kcl_182 rfl rfl (by decide) (m_182 (d := d + 2) (w := 7170414) hT hI27) (kF (fun v371 v371p => ?_))
                have jn378 : ∀ (y377 : Int), (15 ≤ y377) → (y377 ≤ 23) → ((y377 = 15 ∨ y377 = 16 ∨ y377 = 23)) → cP k_P xs Ln (d + 3) 196 249 [(0, rf 63)] [(0, y377)] (T, M27) (qW T M fS_196_m 0 (fun v M1 => 0 ≤ v ∧ v ≤ 1 ∧ (LXp M1 ∧ M 63 4 ≤ M1 63 4 ∧ M 63 9 ≤ M1 63 9 ∧ (OPd M M1 c a v ∧ KP M M1)))) := by
                  intro y377 a379 a380 a381
                  refine s_istore_n kx_196_249 km_196_3 rfl ?_
                  refine s_aload_n kx_196_250 rfl ?_
                  refine s_callV2 (k := 63) (s1 := 1) (s2 := 0) (as := []) (rest := []) kx_196_251 kp_196_286 (Or.inl rfl) rfl (tk_63 hT) ki_180 kcl_180 rfl rfl (by decide) (m_180 (d := d + 1) hT hI27) (kV (fun M383 hI383 fr383 v382p => ?_))
                  have hFm383 := hFm27.call fr383 rfl
                  have tr384 := (fr383 63 9 rfl)
                  have tr385 := (fr383 63 35 rfl)
                  have tr386 := (fr383 63 42 rfl)
                  have tr387 := (fr383 63 43 rfl)
                  have tr388 := (fr383 63 45 rfl)
                  have tr389 := rg_63_9 hI383
                  refine s_aload_n kx_196_254 rfl ?_
                  refine s_callV2 (k := 63) (s1 := 1) (s2 := 0) (as := []) (rest := []) kx_196_255 kp_196_280 (Or.inl rfl) rfl (tk_63 hT) ki_179 kcl_179 rfl rfl (by decide) (m_179 (d := d + 1) hT hI383) (kV (fun M391 hI391 fr391 v390p => ?_))
                  have hFm391 := hFm383.call fr391 rfl
                  have tr392 := (fr391 63 3 rfl)
                  have tr393 := (fr391 63 4 rfl)
                  have tr394 := (fr391 63 5 rfl)
                  have tr395 := (fr391 63 35 rfl)
                  have tr396 := (fr391 63 42 rfl)
                  have tr397 := (fr391 63 43 rfl)
                  have tr398 := (fr391 63 45 rfl)
                  have tr399 := rg_63_9 hI391
                  refine s_aload_n kx_196_258 rfl ?_
                  refine s_bipush (v := 40) kx_196_259 (by decide) ?_
                  refine s_callV2 (k := 63) (s1 := 2) (s2 := 0) (as := [(0, 40)]) (rest := []) kx_196_261 kp_196_283 (Or.inl rfl) rfl (tk_63 hT) ki_181 kcl_181 rfl rfl (by decide) (m_181 (d := d + 2) (c := 40) hT hI391) (kF (fun v400 v400p => ?_))
                  refine s_if_ne (t := 276) kx_196_264 (by decide) (fun hc401 => ?_) (fun hc401 => ?_)
                  · replace v400p := v400p.resolve_right (by omega)
                    refine s_aload_n kx_196_276 rfl ?_
                    refine s_iload_n kx_196_277 rfl ?_
                    refine s_bipush (v := 23) kx_196_278 (by decide) ?_
                    refine s_icmp_ne (t := 288) kx_196_280 (by decide) (fun hc402 => ?_) (fun hc402 => ?_)
                    · refine s_iconst (v := 3) kx_196_288 (by decide) ?_
                      refine s_callV2 (k := 63) (s1 := 2) (s2 := 0) (as := [(0, 3)]) (rest := []) kx_196_289 kp_196_367 (Or.inl rfl) rfl (tk_63 hT) ki_194 kcl_194 rfl rfl (by decide) (m_194 (d := d) (kind := 3) hT hI391 (LXp.fr (show LXp M383 from v382p.2) fr391 rfl) (PI.fr (PI.fr hP37 fr383 rfl) fr391 rfl) (B0.fr (B0.fr hB36 fr383 rfl (fun _ => rfl)) fr391 rfl (fun _ => rfl)) (by omega)) (kV (fun M404 hI404 fr404 v403p => ?_))
                      have hFm404 := hFm391.call fr404 rfl
                      have tr405 := (fr404 63 35 rfl)
                      have tr406 := (fr404 63 45 rfl)
                      have tr407 := rg_63_9 hI404
                      refine s_aload_n kx_196_292 rfl ?_
                      refine r_getI (k := 63) (f := 9) kx_196_293 kp_196_39 (tk_63 hT) kf_12_9 (fun _ => rfl) (rg_63_9 hI404) (fun v408 v408e v408a v408b => ?_)
                      refine s_if_ne (t := 311) kx_196_296 (by decide) (fun hc409 => ?_) (fun hc409 => ?_)
                      · refine s_iconst (v := 0) kx_196_311 (by decide) ?_
                        have hk410 : M404 63 9 = v408 := v408e
                        exact s_iret kx_196_312 (Or.inr ⟨kq_196, by omega⟩) ⟨_, _, rfl, rfl, hI404, hFm404, ⟨by omega, by omega, v403p.1, (by omega), (by omega), ⟨(Or.inl (by omega)), (KP.fr (KP.fr (KP.fr (KP.up (KP.fr (KP.refl (M := M)) fr2 (fun _ => rfl)) u27 (by decide)) fr383 (fun _ => rfl)) fr391 (fun _ => rfl)) fr404 (fun _ => rfl))⟩⟩⟩
                      · refine s_aload_n kx_196_299 rfl ?_
                        refine r_getR (k := 63) (f := 40) (k2 := 88) kx_196_300 kp_196_134 (tk_63 hT) kf_12_40 (by decide) (rq_63_40 hI404) ?_
                        refine s_aload_n kx_196_303 rfl ?_
                        refine r_getI (k := 63) (f := 42) kx_196_304 kp_196_140 (tk_63 hT) kf_12_42 (fun _ => rfl) (rg_63_42 hI404) (fun v411 v411e v411a v411b => ?_)
                        refine s_iconst (v := 1) kx_196_307 (by decide) ?_
                        refine r_sub kx_196_308 ⟨by omega, by omega⟩ ?_
                        refine s_iload_n kx_196_309 rfl ?_
                        refine r_ast (k := 88) kx_196_310 (tk_88 hT) ⟨by omega, by omega⟩ hI404 (ru_88 (by omega) (by omega)) (fun M412 hI412 u412 => ?_)
                        have hFm412 := hFm404.up u412 rfl
                        have tr413 := (u412.2 63 3 (by omega))
                        have tr414 := (u412.2 63 4 (by omega))
                        have tr415 := (u412.2 63 5 (by omega))
                        have tr416 := (u412.2 63 9 (by omega))
                        have tr417 := (u412.2 63 35 (by omega))
                        have tr418 := (u412.2 63 42 (by omega))
                        have tr419 := (u412.2 63 43 (by omega))
                        have tr420 := (u412.2 63 45 (by omega))
                        have hpp := (v403p.2.2.2.resolve_left (by omega)).2.2.2 _ _ (by rw [v411e]; exact u412) (by omega)
                        refine s_iconst (v := 0) kx_196_311 (by decide) ?_
                        have hk421 : M412 63 9 = v408 := ((u412.2 63 9 (by omega)).trans v408e)
                        exact s_iret kx_196_312 (Or.inr ⟨kq_196, by omega⟩) ⟨_, _, rfl, rfl, hI412, hFm412, ⟨by omega, by omega, (LXp.up v403p.1 u412 (Or.inl (by decide))), (by omega), (by omega), ⟨(Or.inr ⟨by omega, Or.inr ⟨rfl, PI.to7 hpp (by omega)⟩⟩), (KP.up (KP.fr (KP.fr (KP.fr (KP.up (KP.fr (KP.refl (M := M)) fr2 (fun _ => rfl)) u27 (by decide)) fr383 (fun _ => rfl)) fr391 (fun _ => rfl)) fr404 (fun _ => rfl)) u412 (by decide))⟩⟩⟩
                    · refine s_bipush (v := 6) kx_196_283 (by decide) ?_
                      refine s_goto (t := 289) kx_196_285 (by decide) ?_
                      refine s_callV2 (k := 63) (s1 := 2) (s2 := 0) (as := [(0, 6)]) (rest := []) kx_196_289 kp_196_367 (Or.inl rfl) rfl (tk_63 hT) ki_194 kcl_194 rfl rfl (by decide) (m_194 (d := d) (kind := 6) hT hI391 (LXp.fr (show LXp M383 from v382p.2) fr391 rfl) (PI.fr (PI.fr hP37 fr383 rfl) fr391 rfl) (B0.fr (B0.fr hB36 fr383 rfl (fun _ => rfl)) fr391 rfl (fun _ => rfl)) (by omega)) (kV (fun M423 hI423 fr423 v422p => ?_))
                      have hFm423 := hFm391.call fr423 rfl
                      have tr424 := (fr423 63 35 rfl)
                      have tr425 := (fr423 63 45 rfl)
                      have tr426 := rg_63_9 hI423
                      refine s_aload_n kx_196_292 rfl ?_
                      refine r_getI (k := 63) (f := 9) kx_196_293 kp_196_39 (tk_63 hT) kf_12_9 (fun _ => rfl) (rg_63_9 hI423) (fun v427 v427e v427a v427b => ?_)
                      refine s_if_ne (t := 311) kx_196_296 (by decide) (fun hc428 => ?_) (fun hc428 => ?_)
                      · refine s_iconst (v := 0) kx_196_311 (by decide) ?_
                        have hk429 : M423 63 9 = v427 := v427e
                        exact s_iret kx_196_312 (Or.inr ⟨kq_196, by omega⟩) ⟨_, _, rfl, rfl, hI423, hFm423, ⟨by omega, by omega, v422p.1, (by omega), (by omega), ⟨(Or.inl (by omega)), (KP.fr (KP.fr (KP.fr (KP.up (KP.fr (KP.refl (M := M)) fr2 (fun _ => rfl)) u27 (by decide)) fr383 (fun _ => rfl)) fr391 (fun _ => rfl)) fr423 (fun _ => rfl))⟩⟩⟩
                      · refine s_aload_n kx_196_299 rfl ?_
                        refine r_getR (k := 63) (f := 40) (k2 := 88) kx_196_300 kp_196_134 (tk_63 hT) kf_12_40 (by decide) (rq_63_40 hI423) ?_
                        refine s_aload_n kx_196_303 rfl ?_
                        refine r_getI (k := 63) (f := 42) kx_196_304 kp_196_140 (tk_63 hT) kf_12_42 (fun _ => rfl) (rg_63_42 hI423) (fun v430 v430e v430a v430b => ?_)
                        refine s_iconst (v := 1) kx_196_307 (by decide) ?_
                        refine r_sub kx_196_308 ⟨by omega, by omega⟩ ?_
                        refine s_iload_n kx_196_309 rfl ?_
                        refine r_ast (k := 88) kx_196_310 (tk_88 hT) ⟨by omega, by omega⟩ hI423 (ru_88 (by omega) (by omega)) (fun M431 hI431 u431 => ?_)
                        have hFm431 := hFm423.up u431 rfl
                        have tr432 := (u431.2 63 3 (by omega))
                        have tr433 := (u431.2 63 4 (by omega))
                        have tr434 := (u431.2 63 5 (by omega))
                        have tr435 := (u431.2 63 9 (by omega))
                        have tr436 := (u431.2 63 35 (by omega))
                        have tr437 := (u431.2 63 42 (by omega))
                        have tr438 := (u431.2 63 43 (by omega))
                        have tr439 := (u431.2 63 45 (by omega))
                        have hpp := (v422p.2.2.2.resolve_left (by omega)).2.2.2 _ _ (by rw [v430e]; exact u431) (by omega)
                        refine s_iconst (v := 0) kx_196_311 (by decide) ?_
                        have hk440 : M431 63 9 = v427 := ((u431.2 63 9 (by omega)).trans v427e)
                        exact s_iret kx_196_312 (Or.inr ⟨kq_196, by omega⟩) ⟨_, _, rfl, rfl, hI431, hFm431, ⟨by omega, by omega, (LXp.up v422p.1 u431 (Or.inl (by decide))), (by omega), (by omega), ⟨(Or.inr ⟨by omega, Or.inr ⟨rfl, PI.to7 hpp (by omega)⟩⟩), (KP.up (KP.fr (KP.fr (KP.fr (KP.up (KP.fr (KP.refl (M := M)) fr2 (fun _ => rfl)) u27 (by decide)) fr383 (fun _ => rfl)) fr391 (fun _ => rfl)) fr423 (fun _ => rfl)) u431 (by decide))⟩⟩⟩
                  · replace v400p := v400p.resolve_left (by omega)
                    refine s_aload_n kx_196_267 rfl ?_
                    refine s_iconst (v := 1) kx_196_268 (by decide) ?_
                    refine s_aload_n kx_196_269 rfl ?_
                    refine r_getI (k := 63) (f := 4) kx_196_270 kp_196_23 (tk_63 hT) kf_12_4 (fun _ => rfl) (rg_63_4 hI391) (fun v441 v441e v441a v441b => ?_)
                    refine s_callV2 (k := 63) (s1 := 3) (s2 := 0) (as := [(0, v441), (0, 1)]) (rest := []) kx_196_273 kp_196_263 (Or.inl rfl) rfl (tk_63 hT) ki_176 kcl_176 rfl rfl (by decide) (m_176 (d := d + 2) (kind := 1) (place := v441) hT hI391 (by omega)) (kV (fun M443 hI443 fr443 v442p => ?_))
                    have hFm443 := hFm391.call fr443 rfl
                    have tr444 := (fr443 63 3 rfl)
                    have tr445 := (fr443 63 4 rfl)
                    have tr446 := (fr443 63 5 rfl)
                    have tr447 := (fr443 63 35 rfl)
                    have tr448 := (fr443 63 42 rfl)
                    have tr449 := (fr443 63 43 rfl)
                    have tr450 := (fr443 63 45 rfl)
                    have tr451 := rg_63_9 hI443
                    refine s_aload_n kx_196_276 rfl ?_
                    refine s_iload_n kx_196_277 rfl ?_
                    refine s_bipush (v := 23) kx_196_278 (by decide) ?_
                    refine s_icmp_ne (t := 288) kx_196_280 (by decide) (fun hc452 => ?_) (fun hc452 => ?_)
                    · refine s_iconst (v := 3) kx_196_288 (by decide) ?_
                      refine s_callV2 (k := 63) (s1 := 2) (s2 := 0) (as := [(0, 3)]) (rest := []) kx_196_289 kp_196_367 (Or.inl rfl) rfl (tk_63 hT) ki_194 kcl_194 rfl rfl (by decide) (m_194 (d := d) (kind := 3) hT hI443 (LXp.fr (LXp.fr (show LXp M383 from v382p.2) fr391 rfl) fr443 rfl) (PI.fr (PI.fr (PI.fr hP37 fr383 rfl) fr391 rfl) fr443 rfl) (B0.fr (B0.fr (B0.fr hB36 fr383 rfl (fun _ => rfl)) fr391 rfl (fun _ => rfl)) fr443 rfl (fun _ => rfl)) (by omega)) (kV (fun M454 hI454 fr454 v453p => ?_))
                      have hFm454 := hFm443.call fr454 rfl
                      have tr455 := (fr454 63 35 rfl)
                      have tr456 := (fr454 63 45 rfl)
                      have tr457 := rg_63_9 hI454
                      refine s_aload_n kx_196_292 rfl ?_
                      refine r_getI (k := 63) (f := 9) kx_196_293 kp_196_39 (tk_63 hT) kf_12_9 (fun _ => rfl) (rg_63_9 hI454) (fun v458 v458e v458a v458b => ?_)
                      refine s_if_ne (t := 311) kx_196_296 (by decide) (fun hc459 => ?_) (fun hc459 => ?_)
                      · refine s_iconst (v := 0) kx_196_311 (by decide) ?_
                        have hk460 : M454 63 9 = v458 := v458e
                        exact s_iret kx_196_312 (Or.inr ⟨kq_196, by omega⟩) ⟨_, _, rfl, rfl, hI454, hFm454, ⟨by omega, by omega, v453p.1, (by omega), (by omega), ⟨(Or.inl (by omega)), (KP.fr (KP.fr (KP.fr (KP.fr (KP.up (KP.fr (KP.refl (M := M)) fr2 (fun _ => rfl)) u27 (by decide)) fr383 (fun _ => rfl)) fr391 (fun _ => rfl)) fr443 (fun _ => rfl)) fr454 (fun _ => rfl))⟩⟩⟩
                      · refine s_aload_n kx_196_299 rfl ?_
                        refine r_getR (k := 63) (f := 40) (k2 := 88) kx_196_300 kp_196_134 (tk_63 hT) kf_12_40 (by decide) (rq_63_40 hI454) ?_
                        refine s_aload_n kx_196_303 rfl ?_
                        refine r_getI (k := 63) (f := 42) kx_196_304 kp_196_140 (tk_63 hT) kf_12_42 (fun _ => rfl) (rg_63_42 hI454) (fun v461 v461e v461a v461b => ?_)
                        refine s_iconst (v := 1) kx_196_307 (by decide) ?_
                        refine r_sub kx_196_308 ⟨by omega, by omega⟩ ?_
                        refine s_iload_n kx_196_309 rfl ?_
                        refine r_ast (k := 88) kx_196_310 (tk_88 hT) ⟨by omega, by omega⟩ hI454 (ru_88 (by omega) (by omega)) (fun M462 hI462 u462 => ?_)
                        have hFm462 := hFm454.up u462 rfl
                        have tr463 := (u462.2 63 3 (by omega))
                        have tr464 := (u462.2 63 4 (by omega))
                        have tr465 := (u462.2 63 5 (by omega))
                        have tr466 := (u462.2 63 9 (by omega))
                        have tr467 := (u462.2 63 35 (by omega))
                        have tr468 := (u462.2 63 42 (by omega))
                        have tr469 := (u462.2 63 43 (by omega))
                        have tr470 := (u462.2 63 45 (by omega))
                        have hpp := (v453p.2.2.2.resolve_left (by omega)).2.2.2 _ _ (by rw [v461e]; exact u462) (by omega)
                        refine s_iconst (v := 0) kx_196_311 (by decide) ?_
                        have hk471 : M462 63 9 = v458 := ((u462.2 63 9 (by omega)).trans v458e)
                        exact s_iret kx_196_312 (Or.inr ⟨kq_196, by omega⟩) ⟨_, _, rfl, rfl, hI462, hFm462, ⟨by omega, by omega, (LXp.up v453p.1 u462 (Or.inl (by decide))), (by omega), (by omega), ⟨(Or.inr ⟨by omega, Or.inr ⟨rfl, PI.to7 hpp (by omega)⟩⟩), (KP.up (KP.fr (KP.fr (KP.fr (KP.fr (KP.up (KP.fr (KP.refl (M := M)) fr2 (fun _ => rfl)) u27 (by decide)) fr383 (fun _ => rfl)) fr391 (fun _ => rfl)) fr443 (fun _ => rfl)) fr454 (fun _ => rfl)) u462 (by decide))⟩⟩⟩
                    · refine s_bipush (v := 6) kx_196_283 (by decide) ?_
                      refine s_goto (t := 289) kx_196_285 (by decide) ?_
                      refine s_callV2 (k := 63) (s1 := 2) (s2 := 0) (as := [(0, 6)]) (rest := []) kx_196_289 kp_196_367 (Or.inl rfl) rfl (tk_63 hT) ki_194 kcl_194 rfl rfl (by decide) (m_194 (d := d) (kind := 6) hT hI443 (LXp.fr (LXp.fr (show LXp M383 from v382p.2) fr391 rfl) fr443 rfl) (PI.fr (PI.fr (PI.fr hP37 fr383 rfl) fr391 rfl) fr443 rfl) (B0.fr (B0.fr (B0.fr hB36 fr383 rfl (fun _ => rfl)) fr391 rfl (fun _ => rfl)) fr443 rfl (fun _ => rfl)) (by omega)) (kV (fun M473 hI473 fr473 v472p => ?_))
                      have hFm473 := hFm443.call fr473 rfl
                      have tr474 := (fr473 63 35 rfl)
                      have tr475 := (fr473 63 45 rfl)
                      have tr476 := rg_63_9 hI473
                      refine s_aload_n kx_196_292 rfl ?_
                      refine r_getI (k := 63) (f := 9) kx_196_293 kp_196_39 (tk_63 hT) kf_12_9 (fun _ => rfl) (rg_63_9 hI473) (fun v477 v477e v477a v477b => ?_)
                      refine s_if_ne (t := 311) kx_196_296 (by decide) (fun hc478 => ?_) (fun hc478 => ?_)
                      · refine s_iconst (v := 0) kx_196_311 (by decide) ?_
                        have hk479 : M473 63 9 = v477 := v477e
                        exact s_iret kx_196_312 (Or.inr ⟨kq_196, by omega⟩) ⟨_, _, rfl, rfl, hI473, hFm473, ⟨by omega, by omega, v472p.1, (by omega), (by omega), ⟨(Or.inl (by omega)), (KP.fr (KP.fr (KP.fr (KP.fr (KP.up (KP.fr (KP.refl (M := M)) fr2 (fun _ => rfl)) u27 (by decide)) fr383 (fun _ => rfl)) fr391 (fun _ => rfl)) fr443 (fun _ => rfl)) fr473 (fun _ => rfl))⟩⟩⟩
                      · refine s_aload_n kx_196_299 rfl ?_
                        refine r_getR (k := 63) (f := 40) (k2 := 88) kx_196_300 kp_196_134 (tk_63 hT) kf_12_40 (by decide) (rq_63_40 hI473) ?_
                        refine s_aload_n kx_196_303 rfl ?_
                        refine r_getI (k := 63) (f := 42) kx_196_304 kp_196_140 (tk_63 hT) kf_12_42 (fun _ => rfl) (rg_63_42 hI473) (fun v480 v480e v480a v480b => ?_)
                        refine s_iconst (v := 1) kx_196_307 (by decide) ?_
                        refine r_sub kx_196_308 ⟨by omega, by omega⟩ ?_
                        refine s_iload_n kx_196_309 rfl ?_
                        refine r_ast (k := 88) kx_196_310 (tk_88 hT) ⟨by omega, by omega⟩ hI473 (ru_88 (by omega) (by omega)) (fun M481 hI481 u481 => ?_)
                        have hFm481 := hFm473.up u481 rfl
                        have tr482 := (u481.2 63 3 (by omega))
                        have tr483 := (u481.2 63 4 (by omega))
                        have tr484 := (u481.2 63 5 (by omega))
                        have tr485 := (u481.2 63 9 (by omega))
                        have tr486 := (u481.2 63 35 (by omega))
                        have tr487 := (u481.2 63 42 (by omega))
                        have tr488 := (u481.2 63 43 (by omega))
                        have tr489 := (u481.2 63 45 (by omega))
                        have hpp := (v472p.2.2.2.resolve_left (by omega)).2.2.2 _ _ (by rw [v480e]; exact u481) (by omega)
                        refine s_iconst (v := 0) kx_196_311 (by decide) ?_
                        have hk490 : M481 63 9 = v477 := ((u481.2 63 9 (by omega)).trans v477e)
                        exact s_iret kx_196_312 (Or.inr ⟨kq_196, by omega⟩) ⟨_, _, rfl, rfl, hI481, hFm481, ⟨by omega, by omega, (LXp.up v472p.1 u481 (Or.inl (by decide))), (by omega), (by omega), ⟨(Or.inr ⟨by omega, Or.inr ⟨rfl, PI.to7 hpp (by omega)⟩⟩), (KP.up (KP.fr (KP.fr (KP.fr (KP.fr (KP.up (KP.fr (KP.refl (M := M)) fr2 (fun _ => rfl)) u27 (by decide)) fr383 (fun _ => rfl)) fr391 (fun _ => rfl)) fr443 (fun _ => rfl)) fr473 (fun _ => rfl)) u481 (by decide))⟩⟩⟩
                refine s_if_eq (t := 232) kx_196_224 (by decide) (fun hc372 => ?_) (fun hc372 => ?_)
                · have hJ373 : Fr fS_196_j224 M27 M27 := Fr.refl
                  replace v371p := v371p.resolve_left (by omega)
                  refine s_aload_n kx_196_232 rfl ?_
                  refine s_ldc2_w kx_196_233 kp_196_335 ?_
                  refine s_callV2 (k := 63) (s1 := 3) (s2 := 0) (as := [(1, 7168376)]) (rest := []) kx_196_236 kp_196_361 (Or.inl rfl) rfl (tk_63 hT) ki_182 kcl_182 rfl rfl (by decide) (m_182 (d := d + 2) (w := 7168376) hT hI27) (kF (fun v374 v374p => ?_))
                  refine s_if_eq (t := 247) kx_196_239 (by decide) (fun hc375 => ?_) (fun hc375 => ?_)
                  · replace v374p := v374p.resolve_left (by omega)
                    refine s_bipush (v := 23) kx_196_247 (by decide) ?_
                    exact cP.wk (lS1 rfl lS0) (jn378 23 (by omega) (by omega) (by omega))
                  · replace v374p := v374p.resolve_right (by omega)
                    refine s_bipush (v := 16) kx_196_242 (by decide) ?_
                    refine s_goto (t := 249) kx_196_244 (by decide) ?_
                    exact cP.wk (lS1 rfl lS0) (jn378 16 (by omega) (by omega) (by omega))
                · have hJ376 : Fr fS_196_j224 M27 M27 := Fr.refl
                  replace v371p := v371p.resolve_right (by omega)
                  refine s_bipush (v := 15) kx_196_227 (by decide) ?_
                  refine s_goto (t := 249) kx_196_229 (by decide) ?_
                  exact cP.wk (lS1 rfl lS0) (jn378 15 (by omega) (by omega) (by omega))
        · replace v40p := v40p.resolve_right (by omega)
          refine s_aload_n kx_196_180 rfl ?_
          refine s_iconst (v := 2) kx_196_181 (by decide) ?_
          refine s_callV2 (k := 63) (s1 := 2) (s2 := 0) (as := [(0, 2)]) (rest := []) kx_196_182 kp_196_367 (Or.inl rfl) rfl (tk_63 hT) ki_194 kcl_194 rfl rfl (by decide) (m_194 (d := d) (kind := 2) hT hI27 (LXp.up (LXp.fr hX fr2 rfl) u27 (Or.inl (by decide))) hP37 hB36 (by omega)) (kV (fun M492 hI492 fr492 v491p => ?_))
          have hFm492 := hFm27.call fr492 rfl
          have tr493 := (fr492 63 35 rfl)
          have tr494 := (fr492 63 45 rfl)
          have tr495 := rg_63_9 hI492
          refine s_iconst (v := 0) kx_196_185 (by decide) ?_
          exact s_iret kx_196_186 (Or.inr ⟨kq_196, by omega⟩) ⟨_, _, rfl, rfl, hI492, hFm492, ⟨by omega, by omega, v491p.1, (by omega), (by omega), ⟨(v491p.2.2.2.imp id (fun z => ⟨by omega, Or.inr ⟨rfl, PI.to7 (PQ.id z.2.2.2 (by decide)) (by omega)⟩⟩)), (KP.fr (KP.up (KP.fr (KP.refl (M := M)) fr2 (fun _ => rfl)) u27 (by decide)) fr492 (fun _ => rfl))⟩⟩⟩
      · refine s_aload_n kx_196_51 rfl ?_
        refine s_ldc2_w kx_196_52 kp_196_329 ?_
        refine s_callV2 (k := 63) (s1 := 3) (s2 := 0) (as := [(1, 7237492)]) (rest := []) kx_196_55 kp_196_361 (Or.inl rfl) rfl (tk_63 hT) ki_182 kcl_182 rfl rfl (by decide) (m_182 (d := d + 2) (w := 7237492) hT hI2) (kF (fun v496 v496p => ?_))
        refine s_if_eq (t := 110) kx_196_58 (by decide) (fun hc497 => ?_) (fun hc497 => ?_)
        · replace v496p := v496p.resolve_left (by omega)
          refine s_aload_n kx_196_110 rfl ?_
          refine r_getR (k := 63) (f := 39) (k2 := 87) kx_196_111 kp_196_130 (tk_63 hT) kf_12_39 (by decide) (rq_63_39 hI2) ?_
          refine s_iload_n kx_196_114 rfl ?_
          refine s_iconst (v := 0) kx_196_115 (by decide) ?_
          refine r_bast (k := 87) kx_196_116 (tk_87 hT) ⟨by omega, by omega⟩ (by omega) hI2 (ru_87 (by omega) (by omega)) (fun M498 hI498 u498 => ?_)
          have hFm498 := hFm2.up u498 rfl
          have tr499 := (u498.2 63 3 (by omega))
          have tr500 := (u498.2 63 4 (by omega))
          have tr501 := (u498.2 63 5 (by omega))
          have tr502 := (u498.2 63 9 (by omega))
          have tr503 := (u498.2 63 35 (by omega))
          have tr504 := (u498.2 63 42 (by omega))
          have tr505 := (u498.2 63 43 (by omega))
          have tr506 := (u498.2 63 45 (by omega))
          have hB507 : B0 M498 := B0.mk (by omega) u498
          have hP508 := (PI.begins0 (PI.fr hP fr2 rfl) (by omega) u498)
          refine s_iload_n kx_196_117 rfl ?_
          refine s_if_eq (t := 137) kx_196_118 (by decide) (fun hc509 => absurd hc509 (by omega)) (fun hc509 => ?_)
          refine s_aload_n kx_196_121 rfl ?_
          refine s_bipush (v := 91) kx_196_122 (by decide) ?_
          refine s_callV2 (k := 63) (s1 := 2) (s2 := 0) (as := [(0, 91)]) (rest := []) kx_196_124 kp_196_283 (Or.inl rfl) rfl (tk_63 hT) ki_181 kcl_181 rfl rfl (by decide) (m_181 (d := d + 2) (c := 91) hT hI498) (kF (fun v510 v510p => ?_))
          refine s_if_eq (t := 137) kx_196_127 (by decide) (fun hc511 => ?_) (fun hc511 => ?_)
          · replace v510p := v510p.resolve_left (by omega)
            refine s_iload_n kx_196_137 rfl ?_
            refine s_if_eq (t := 171) kx_196_138 (by decide) (fun hc512 => absurd hc512 (by omega)) (fun hc512 => ?_)
            refine s_aload_n kx_196_141 rfl ?_
            refine s_ldc2_w kx_196_142 kp_196_331 ?_
            refine s_callV2 (k := 63) (s1 := 3) (s2 := 0) (as := [(1, 6384748)]) (rest := []) kx_196_145 kp_196_361 (Or.inl rfl) rfl (tk_63 hT) ki_182 kcl_182 rfl rfl (by decide) (m_182 (d := d + 2) (w := 6384748) hT hI498) (kF (fun v513 v513p => ?_))
            refine s_if_eq (t := 171) kx_196_148 (by decide) (fun hc514 => ?_) (fun hc514 => ?_)
            · replace v513p := v513p.resolve_left (by omega)
              refine s_aload_n kx_196_171 rfl ?_
              refine s_bipush (v := 40) kx_196_172 (by decide) ?_
              refine s_callV2 (k := 63) (s1 := 2) (s2 := 0) (as := [(0, 40)]) (rest := []) kx_196_174 kp_196_283 (Or.inl rfl) rfl (tk_63 hT) ki_181 kcl_181 rfl rfl (by decide) (m_181 (d := d + 2) (c := 40) hT hI498) (kF (fun v515 v515p => ?_))
              refine s_if_eq (t := 187) kx_196_177 (by decide) (fun hc516 => ?_) (fun hc516 => ?_)
              · replace v515p := v515p.resolve_left (by omega)
                refine s_aload_n kx_196_187 rfl ?_
                refine s_ldc2_w kx_196_188 kp_196_333 ?_
                refine s_callV2 (k := 63) (s1 := 3) (s2 := 0) (as := [(1, 7170414)]) (rest := []) kx_196_191 kp_196_361 (Or.inl rfl) rfl (tk_63 hT) ki_182 kcl_182 rfl rfl (by decide) (m_182 (d := d + 2) (w := 7170414) hT hI498) (kF (fun v517 v517p => ?_))
                refine s_if_ne (t := 217) kx_196_194 (by decide) (fun hc518 => ?_) (fun hc518 => ?_)
                · replace v517p := v517p.resolve_right (by omega)
                  refine s_aload_n kx_196_217 rfl ?_
                  refine s_ldc2_w kx_196_218 kp_196_333 ?_
                  refine s_callV2 (k := 63) (s1 := 3) (s2 := 0) (as := [(1, 7170414)]) (rest := []) kx_196_221 kp_196_361 (Or.inl rfl) rfl (tk_63 hT) ki_182 kcl_182 rfl rfl (by decide) (m_182 (d := d + 2) (w := 7170414) hT hI498) (kF (fun v519 v519p => ?_))
                  have jn526 : ∀ (y525 : Int), (15 ≤ y525) → (y525 ≤ 23) → ((y525 = 15 ∨ y525 = 16 ∨ y525 = 23)) → cP k_P xs Ln (d + 3) 196 249 [(0, rf 63)] [(0, y525)] (T, M498) (qW T M fS_196_m 0 (fun v M1 => 0 ≤ v ∧ v ≤ 1 ∧ (LXp M1 ∧ M 63 4 ≤ M1 63 4 ∧ M 63 9 ≤ M1 63 9 ∧ (OPd M M1 c a v ∧ KP M M1)))) := by
                    intro y525 a527 a528 a529
                    refine s_istore_n kx_196_249 km_196_3 rfl ?_
                    refine s_aload_n kx_196_250 rfl ?_
                    refine s_callV2 (k := 63) (s1 := 1) (s2 := 0) (as := []) (rest := []) kx_196_251 kp_196_286 (Or.inl rfl) rfl (tk_63 hT) ki_180 kcl_180 rfl rfl (by decide) (m_180 (d := d + 1) hT hI498) (kV (fun M531 hI531 fr531 v530p => ?_))
                    have hFm531 := hFm498.call fr531 rfl
                    have tr532 := (fr531 63 9 rfl)
                    have tr533 := (fr531 63 35 rfl)
                    have tr534 := (fr531 63 42 rfl)
                    have tr535 := (fr531 63 43 rfl)
                    have tr536 := (fr531 63 45 rfl)
                    have tr537 := rg_63_9 hI531
                    refine s_aload_n kx_196_254 rfl ?_
                    refine s_callV2 (k := 63) (s1 := 1) (s2 := 0) (as := []) (rest := []) kx_196_255 kp_196_280 (Or.inl rfl) rfl (tk_63 hT) ki_179 kcl_179 rfl rfl (by decide) (m_179 (d := d + 1) hT hI531) (kV (fun M539 hI539 fr539 v538p => ?_))
                    have hFm539 := hFm531.call fr539 rfl
                    have tr540 := (fr539 63 3 rfl)
                    have tr541 := (fr539 63 4 rfl)
                    have tr542 := (fr539 63 5 rfl)
                    have tr543 := (fr539 63 35 rfl)
                    have tr544 := (fr539 63 42 rfl)
                    have tr545 := (fr539 63 43 rfl)
                    have tr546 := (fr539 63 45 rfl)
                    have tr547 := rg_63_9 hI539
                    refine s_aload_n kx_196_258 rfl ?_
                    refine s_bipush (v := 40) kx_196_259 (by decide) ?_
                    refine s_callV2 (k := 63) (s1 := 2) (s2 := 0) (as := [(0, 40)]) (rest := []) kx_196_261 kp_196_283 (Or.inl rfl) rfl (tk_63 hT) ki_181 kcl_181 rfl rfl (by decide) (m_181 (d := d + 2) (c := 40) hT hI539) (kF (fun v548 v548p => ?_))
                    refine s_if_ne (t := 276) kx_196_264 (by decide) (fun hc549 => ?_) (fun hc549 => ?_)
                    · replace v548p := v548p.resolve_right (by omega)
                      refine s_aload_n kx_196_276 rfl ?_
                      refine s_iload_n kx_196_277 rfl ?_
                      refine s_bipush (v := 23) kx_196_278 (by decide) ?_
                      refine s_icmp_ne (t := 288) kx_196_280 (by decide) (fun hc550 => ?_) (fun hc550 => ?_)
                      · refine s_iconst (v := 3) kx_196_288 (by decide) ?_
                        refine s_callV2 (k := 63) (s1 := 2) (s2 := 0) (as := [(0, 3)]) (rest := []) kx_196_289 kp_196_367 (Or.inl rfl) rfl (tk_63 hT) ki_194 kcl_194 rfl rfl (by decide) (m_194 (d := d) (kind := 3) hT hI539 (LXp.fr (show LXp M531 from v530p.2) fr539 rfl) (PI.fr (PI.fr hP508 fr531 rfl) fr539 rfl) (B0.fr (B0.fr hB507 fr531 rfl (fun _ => rfl)) fr539 rfl (fun _ => rfl)) (by omega)) (kV (fun M552 hI552 fr552 v551p => ?_))
                        have hFm552 := hFm539.call fr552 rfl
                        have tr553 := (fr552 63 35 rfl)
                        have tr554 := (fr552 63 45 rfl)
                        have tr555 := rg_63_9 hI552
                        refine s_aload_n kx_196_292 rfl ?_
                        refine r_getI (k := 63) (f := 9) kx_196_293 kp_196_39 (tk_63 hT) kf_12_9 (fun _ => rfl) (rg_63_9 hI552) (fun v556 v556e v556a v556b => ?_)
                        refine s_if_ne (t := 311) kx_196_296 (by decide) (fun hc557 => ?_) (fun hc557 => ?_)
                        · refine s_iconst (v := 0) kx_196_311 (by decide) ?_
                          have hk558 : M552 63 9 = v556 := v556e
                          exact s_iret kx_196_312 (Or.inr ⟨kq_196, by omega⟩) ⟨_, _, rfl, rfl, hI552, hFm552, ⟨by omega, by omega, v551p.1, (by omega), (by omega), ⟨(Or.inl (by omega)), (KP.fr (KP.fr (KP.fr (KP.up (KP.fr (KP.refl (M := M)) fr2 (fun _ => rfl)) u498 (by decide)) fr531 (fun _ => rfl)) fr539 (fun _ => rfl)) fr552 (fun _ => rfl))⟩⟩⟩
                        · refine s_aload_n kx_196_299 rfl ?_
                          refine r_getR (k := 63) (f := 40) (k2 := 88) kx_196_300 kp_196_134 (tk_63 hT) kf_12_40 (by decide) (rq_63_40 hI552) ?_
                          refine s_aload_n kx_196_303 rfl ?_
                          refine r_getI (k := 63) (f := 42) kx_196_304 kp_196_140 (tk_63 hT) kf_12_42 (fun _ => rfl) (rg_63_42 hI552) (fun v559 v559e v559a v559b => ?_)
                          refine s_iconst (v := 1) kx_196_307 (by decide) ?_
                          refine r_sub kx_196_308 ⟨by omega, by omega⟩ ?_
                          refine s_iload_n kx_196_309 rfl ?_
                          refine r_ast (k := 88) kx_196_310 (tk_88 hT) ⟨by omega, by omega⟩ hI552 (ru_88 (by omega) (by omega)) (fun M560 hI560 u560 => ?_)
                          have hFm560 := hFm552.up u560 rfl
                          have tr561 := (u560.2 63 3 (by omega))
                          have tr562 := (u560.2 63 4 (by omega))
                          have tr563 := (u560.2 63 5 (by omega))
                          have tr564 := (u560.2 63 9 (by omega))
                          have tr565 := (u560.2 63 35 (by omega))
                          have tr566 := (u560.2 63 42 (by omega))
                          have tr567 := (u560.2 63 43 (by omega))
                          have tr568 := (u560.2 63 45 (by omega))
                          have hpp := (v551p.2.2.2.resolve_left (by omega)).2.2.2 _ _ (by rw [v559e]; exact u560) (by omega)
                          refine s_iconst (v := 0) kx_196_311 (by decide) ?_
                          have hk569 : M560 63 9 = v556 := ((u560.2 63 9 (by omega)).trans v556e)
                          exact s_iret kx_196_312 (Or.inr ⟨kq_196, by omega⟩) ⟨_, _, rfl, rfl, hI560, hFm560, ⟨by omega, by omega, (LXp.up v551p.1 u560 (Or.inl (by decide))), (by omega), (by omega), ⟨(Or.inr ⟨by omega, Or.inr ⟨rfl, PI.to7 hpp (by omega)⟩⟩), (KP.up (KP.fr (KP.fr (KP.fr (KP.up (KP.fr (KP.refl (M := M)) fr2 (fun _ => rfl)) u498 (by decide)) fr531 (fun _ => rfl)) fr539 (fun _ => rfl)) fr552 (fun _ => rfl)) u560 (by decide))⟩⟩⟩
                      · refine s_bipush (v := 6) kx_196_283 (by decide) ?_
                        refine s_goto (t := 289) kx_196_285 (by decide) ?_
                        refine s_callV2 (k := 63) (s1 := 2) (s2 := 0) (as := [(0, 6)]) (rest := []) kx_196_289 kp_196_367 (Or.inl rfl) rfl (tk_63 hT) ki_194 kcl_194 rfl rfl (by decide) (m_194 (d := d) (kind := 6) hT hI539 (LXp.fr (show LXp M531 from v530p.2) fr539 rfl) (PI.fr (PI.fr hP508 fr531 rfl) fr539 rfl) (B0.fr (B0.fr hB507 fr531 rfl (fun _ => rfl)) fr539 rfl (fun _ => rfl)) (by omega)) (kV (fun M571 hI571 fr571 v570p => ?_))
                        have hFm571 := hFm539.call fr571 rfl
                        have tr572 := (fr571 63 35 rfl)
                        have tr573 := (fr571 63 45 rfl)
                        have tr574 := rg_63_9 hI571
                        refine s_aload_n kx_196_292 rfl ?_
                        refine r_getI (k := 63) (f := 9) kx_196_293 kp_196_39 (tk_63 hT) kf_12_9 (fun _ => rfl) (rg_63_9 hI571) (fun v575 v575e v575a v575b => ?_)
                        refine s_if_ne (t := 311) kx_196_296 (by decide) (fun hc576 => ?_) (fun hc576 => ?_)
                        · refine s_iconst (v := 0) kx_196_311 (by decide) ?_
                          have hk577 : M571 63 9 = v575 := v575e
                          exact s_iret kx_196_312 (Or.inr ⟨kq_196, by omega⟩) ⟨_, _, rfl, rfl, hI571, hFm571, ⟨by omega, by omega, v570p.1, (by omega), (by omega), ⟨(Or.inl (by omega)), (KP.fr (KP.fr (KP.fr (KP.up (KP.fr (KP.refl (M := M)) fr2 (fun _ => rfl)) u498 (by decide)) fr531 (fun _ => rfl)) fr539 (fun _ => rfl)) fr571 (fun _ => rfl))⟩⟩⟩
                        · refine s_aload_n kx_196_299 rfl ?_
                          refine r_getR (k := 63) (f := 40) (k2 := 88) kx_196_300 kp_196_134 (tk_63 hT) kf_12_40 (by decide) (rq_63_40 hI571) ?_
                          refine s_aload_n kx_196_303 rfl ?_
                          refine r_getI (k := 63) (f := 42) kx_196_304 kp_196_140 (tk_63 hT) kf_12_42 (fun _ => rfl) (rg_63_42 hI571) (fun v578 v578e v578a v578b => ?_)
                          refine s_iconst (v := 1) kx_196_307 (by decide) ?_
                          refine r_sub kx_196_308 ⟨by omega, by omega⟩ ?_
                          refine s_iload_n kx_196_309 rfl ?_
                          refine r_ast (k := 88) kx_196_310 (tk_88 hT) ⟨by omega, by omega⟩ hI571 (ru_88 (by omega) (by omega)) (fun M579 hI579 u579 => ?_)
                          have hFm579 := hFm571.up u579 rfl
                          have tr580 := (u579.2 63 3 (by omega))
                          have tr581 := (u579.2 63 4 (by omega))
                          have tr582 := (u579.2 63 5 (by omega))
                          have tr583 := (u579.2 63 9 (by omega))
                          have tr584 := (u579.2 63 35 (by omega))
                          have tr585 := (u579.2 63 42 (by omega))
                          have tr586 := (u579.2 63 43 (by omega))
                          have tr587 := (u579.2 63 45 (by omega))
                          have hpp := (v570p.2.2.2.resolve_left (by omega)).2.2.2 _ _ (by rw [v578e]; exact u579) (by omega)
                          refine s_iconst (v := 0) kx_196_311 (by decide) ?_
                          have hk588 : M579 63 9 = v575 := ((u579.2 63 9 (by omega)).trans v575e)
                          exact s_iret kx_196_312 (Or.inr ⟨kq_196, by omega⟩) ⟨_, _, rfl, rfl, hI579, hFm579, ⟨by omega, by omega, (LXp.up v570p.1 u579 (Or.inl (by decide))), (by omega), (by omega), ⟨(Or.inr ⟨by omega, Or.inr ⟨rfl, PI.to7 hpp (by omega)⟩⟩), (KP.up (KP.fr (KP.fr (KP.fr (KP.up (KP.fr (KP.refl (M := M)) fr2 (fun _ => rfl)) u498 (by decide)) fr531 (fun _ => rfl)) fr539 (fun _ => rfl)) fr571 (fun _ => rfl)) u579 (by decide))⟩⟩⟩
                    · replace v548p := v548p.resolve_left (by omega)
                      refine s_aload_n kx_196_267 rfl ?_
                      refine s_iconst (v := 1) kx_196_268 (by decide) ?_
                      refine s_aload_n kx_196_269 rfl ?_
                      refine r_getI (k := 63) (f := 4) kx_196_270 kp_196_23 (tk_63 hT) kf_12_4 (fun _ => rfl) (rg_63_4 hI539) (fun v589 v589e v589a v589b => ?_)
                      refine s_callV2 (k := 63) (s1 := 3) (s2 := 0) (as := [(0, v589), (0, 1)]) (rest := []) kx_196_273 kp_196_263 (Or.inl rfl) rfl (tk_63 hT) ki_176 kcl_176 rfl rfl (by decide) (m_176 (d := d + 2) (kind := 1) (place := v589) hT hI539 (by omega)) (kV (fun M591 hI591 fr591 v590p => ?_))
                      have hFm591 := hFm539.call fr591 rfl
                      have tr592 := (fr591 63 3 rfl)
                      have tr593 := (fr591 63 4 rfl)
                      have tr594 := (fr591 63 5 rfl)
                      have tr595 := (fr591 63 35 rfl)
                      have tr596 := (fr591 63 42 rfl)
                      have tr597 := (fr591 63 43 rfl)
                      have tr598 := (fr591 63 45 rfl)
                      have tr599 := rg_63_9 hI591
                      refine s_aload_n kx_196_276 rfl ?_
                      refine s_iload_n kx_196_277 rfl ?_
                      refine s_bipush (v := 23) kx_196_278 (by decide) ?_
                      refine s_icmp_ne (t := 288) kx_196_280 (by decide) (fun hc600 => ?_) (fun hc600 => ?_)
                      · refine s_iconst (v := 3) kx_196_288 (by decide) ?_
                        refine s_callV2 (k := 63) (s1 := 2) (s2 := 0) (as := [(0, 3)]) (rest := []) kx_196_289 kp_196_367 (Or.inl rfl) rfl (tk_63 hT) ki_194 kcl_194 rfl rfl (by decide) (m_194 (d := d) (kind := 3) hT hI591 (LXp.fr (LXp.fr (show LXp M531 from v530p.2) fr539 rfl) fr591 rfl) (PI.fr (PI.fr (PI.fr hP508 fr531 rfl) fr539 rfl) fr591 rfl) (B0.fr (B0.fr (B0.fr hB507 fr531 rfl (fun _ => rfl)) fr539 rfl (fun _ => rfl)) fr591 rfl (fun _ => rfl)) (by omega)) (kV (fun M602 hI602 fr602 v601p => ?_))
                        have hFm602 := hFm591.call fr602 rfl
                        have tr603 := (fr602 63 35 rfl)
                        have tr604 := (fr602 63 45 rfl)
                        have tr605 := rg_63_9 hI602
                        refine s_aload_n kx_196_292 rfl ?_
                        refine r_getI (k := 63) (f := 9) kx_196_293 kp_196_39 (tk_63 hT) kf_12_9 (fun _ => rfl) (rg_63_9 hI602) (fun v606 v606e v606a v606b => ?_)
                        refine s_if_ne (t := 311) kx_196_296 (by decide) (fun hc607 => ?_) (fun hc607 => ?_)
                        · refine s_iconst (v := 0) kx_196_311 (by decide) ?_
                          have hk608 : M602 63 9 = v606 := v606e
                          exact s_iret kx_196_312 (Or.inr ⟨kq_196, by omega⟩) ⟨_, _, rfl, rfl, hI602, hFm602, ⟨by omega, by omega, v601p.1, (by omega), (by omega), ⟨(Or.inl (by omega)), (KP.fr (KP.fr (KP.fr (KP.fr (KP.up (KP.fr (KP.refl (M := M)) fr2 (fun _ => rfl)) u498 (by decide)) fr531 (fun _ => rfl)) fr539 (fun _ => rfl)) fr591 (fun _ => rfl)) fr602 (fun _ => rfl))⟩⟩⟩
                        · refine s_aload_n kx_196_299 rfl ?_
                          refine r_getR (k := 63) (f := 40) (k2 := 88) kx_196_300 kp_196_134 (tk_63 hT) kf_12_40 (by decide) (rq_63_40 hI602) ?_
                          refine s_aload_n kx_196_303 rfl ?_
                          refine r_getI (k := 63) (f := 42) kx_196_304 kp_196_140 (tk_63 hT) kf_12_42 (fun _ => rfl) (rg_63_42 hI602) (fun v609 v609e v609a v609b => ?_)
                          refine s_iconst (v := 1) kx_196_307 (by decide) ?_
                          refine r_sub kx_196_308 ⟨by omega, by omega⟩ ?_
                          refine s_iload_n kx_196_309 rfl ?_
                          refine r_ast (k := 88) kx_196_310 (tk_88 hT) ⟨by omega, by omega⟩ hI602 (ru_88 (by omega) (by omega)) (fun M610 hI610 u610 => ?_)
                          have hFm610 := hFm602.up u610 rfl
                          have tr611 := (u610.2 63 3 (by omega))
                          have tr612 := (u610.2 63 4 (by omega))
                          have tr613 := (u610.2 63 5 (by omega))
                          have tr614 := (u610.2 63 9 (by omega))
                          have tr615 := (u610.2 63 35 (by omega))
                          have tr616 := (u610.2 63 42 (by omega))
                          have tr617 := (u610.2 63 43 (by omega))
                          have tr618 := (u610.2 63 45 (by omega))
                          have hpp := (v601p.2.2.2.resolve_left (by omega)).2.2.2 _ _ (by rw [v609e]; exact u610) (by omega)
                          refine s_iconst (v := 0) kx_196_311 (by decide) ?_
                          have hk619 : M610 63 9 = v606 := ((u610.2 63 9 (by omega)).trans v606e)
                          exact s_iret kx_196_312 (Or.inr ⟨kq_196, by omega⟩) ⟨_, _, rfl, rfl, hI610, hFm610, ⟨by omega, by omega, (LXp.up v601p.1 u610 (Or.inl (by decide))), (by omega), (by omega), ⟨(Or.inr ⟨by omega, Or.inr ⟨rfl, PI.to7 hpp (by omega)⟩⟩), (KP.up (KP.fr (KP.fr (KP.fr (KP.fr (KP.up (KP.fr (KP.refl (M := M)) fr2 (fun _ => rfl)) u498 (by decide)) fr531 (fun _ => rfl)) fr539 (fun _ => rfl)) fr591 (fun _ => rfl)) fr602 (fun _ => rfl)) u610 (by decide))⟩⟩⟩
                      · refine s_bipush (v := 6) kx_196_283 (by decide) ?_
                        refine s_goto (t := 289) kx_196_285 (by decide) ?_
                        refine s_callV2 (k := 63) (s1 := 2) (s2 := 0) (as := [(0, 6)]) (rest := []) kx_196_289 kp_196_367 (Or.inl rfl) rfl (tk_63 hT) ki_194 kcl_194 rfl rfl (by decide) (m_194 (d := d) (kind := 6) hT hI591 (LXp.fr (LXp.fr (show LXp M531 from v530p.2) fr539 rfl) fr591 rfl) (PI.fr (PI.fr (PI.fr hP508 fr531 rfl) fr539 rfl) fr591 rfl) (B0.fr (B0.fr (B0.fr hB507 fr531 rfl (fun _ => rfl)) fr539 rfl (fun _ => rfl)) fr591 rfl (fun _ => rfl)) (by omega)) (kV (fun M621 hI621 fr621 v620p => ?_))
                        have hFm621 := hFm591.call fr621 rfl
                        have tr622 := (fr621 63 35 rfl)
                        have tr623 := (fr621 63 45 rfl)
                        have tr624 := rg_63_9 hI621
                        refine s_aload_n kx_196_292 rfl ?_
                        refine r_getI (k := 63) (f := 9) kx_196_293 kp_196_39 (tk_63 hT) kf_12_9 (fun _ => rfl) (rg_63_9 hI621) (fun v625 v625e v625a v625b => ?_)
                        refine s_if_ne (t := 311) kx_196_296 (by decide) (fun hc626 => ?_) (fun hc626 => ?_)
                        · refine s_iconst (v := 0) kx_196_311 (by decide) ?_
                          have hk627 : M621 63 9 = v625 := v625e
                          exact s_iret kx_196_312 (Or.inr ⟨kq_196, by omega⟩) ⟨_, _, rfl, rfl, hI621, hFm621, ⟨by omega, by omega, v620p.1, (by omega), (by omega), ⟨(Or.inl (by omega)), (KP.fr (KP.fr (KP.fr (KP.fr (KP.up (KP.fr (KP.refl (M := M)) fr2 (fun _ => rfl)) u498 (by decide)) fr531 (fun _ => rfl)) fr539 (fun _ => rfl)) fr591 (fun _ => rfl)) fr621 (fun _ => rfl))⟩⟩⟩
                        · refine s_aload_n kx_196_299 rfl ?_
                          refine r_getR (k := 63) (f := 40) (k2 := 88) kx_196_300 kp_196_134 (tk_63 hT) kf_12_40 (by decide) (rq_63_40 hI621) ?_
                          refine s_aload_n kx_196_303 rfl ?_
                          refine r_getI (k := 63) (f := 42) kx_196_304 kp_196_140 (tk_63 hT) kf_12_42 (fun _ => rfl) (rg_63_42 hI621) (fun v628 v628e v628a v628b => ?_)
                          refine s_iconst (v := 1) kx_196_307 (by decide) ?_
                          refine r_sub kx_196_308 ⟨by omega, by omega⟩ ?_
                          refine s_iload_n kx_196_309 rfl ?_
                          refine r_ast (k := 88) kx_196_310 (tk_88 hT) ⟨by omega, by omega⟩ hI621 (ru_88 (by omega) (by omega)) (fun M629 hI629 u629 => ?_)
                          have hFm629 := hFm621.up u629 rfl
                          have tr630 := (u629.2 63 3 (by omega))
                          have tr631 := (u629.2 63 4 (by omega))
                          have tr632 := (u629.2 63 5 (by omega))
                          have tr633 := (u629.2 63 9 (by omega))
                          have tr634 := (u629.2 63 35 (by omega))
                          have tr635 := (u629.2 63 42 (by omega))
                          have tr636 := (u629.2 63 43 (by omega))
                          have tr637 := (u629.2 63 45 (by omega))
                          have hpp := (v620p.2.2.2.resolve_left (by omega)).2.2.2 _ _ (by rw [v628e]; exact u629) (by omega)
                          refine s_iconst (v := 0) kx_196_311 (by decide) ?_
                          have hk638 : M629 63 9 = v625 := ((u629.2 63 9 (by omega)).trans v625e)
                          exact s_iret kx_196_312 (Or.inr ⟨kq_196, by omega⟩) ⟨_, _, rfl, rfl, hI629, hFm629, ⟨by omega, by omega, (LXp.up v620p.1 u629 (Or.inl (by decide))), (by omega), (by omega), ⟨(Or.inr ⟨by omega, Or.inr ⟨rfl, PI.to7 hpp (by omega)⟩⟩), (KP.up (KP.fr (KP.fr (KP.fr (KP.fr (KP.up (KP.fr (KP.refl (M := M)) fr2 (fun _ => rfl)) u498 (by decide)) fr531 (fun _ => rfl)) fr539 (fun _ => rfl)) fr591 (fun _ => rfl)) fr621 (fun _ => rfl)) u629 (by decide))⟩⟩⟩
                  refine s_if_eq (t := 232) kx_196_224 (by decide) (fun hc520 => ?_) (fun hc520 => ?_)
                  · have hJ521 : Fr fS_196_j224 M498 M498 := Fr.refl
                    replace v519p := v519p.resolve_left (by omega)
                    refine s_aload_n kx_196_232 rfl ?_
                    refine s_ldc2_w kx_196_233 kp_196_335 ?_
                    refine s_callV2 (k := 63) (s1 := 3) (s2 := 0) (as := [(1, 7168376)]) (rest := []) kx_196_236 kp_196_361 (Or.inl rfl) rfl (tk_63 hT) ki_182 kcl_182 rfl rfl (by decide) (m_182 (d := d + 2) (w := 7168376) hT hI498) (kF (fun v522 v522p => ?_))
                    refine s_if_eq (t := 247) kx_196_239 (by decide) (fun hc523 => ?_) (fun hc523 => ?_)
                    · replace v522p := v522p.resolve_left (by omega)
                      refine s_bipush (v := 23) kx_196_247 (by decide) ?_
                      exact cP.wk (lS1 rfl lS0) (jn526 23 (by omega) (by omega) (by omega))
                    · replace v522p := v522p.resolve_right (by omega)
                      refine s_bipush (v := 16) kx_196_242 (by decide) ?_
                      refine s_goto (t := 249) kx_196_244 (by decide) ?_
                      exact cP.wk (lS1 rfl lS0) (jn526 16 (by omega) (by omega) (by omega))
                  · have hJ524 : Fr fS_196_j224 M498 M498 := Fr.refl
                    replace v519p := v519p.resolve_right (by omega)
                    refine s_bipush (v := 15) kx_196_227 (by decide) ?_
                    refine s_goto (t := 249) kx_196_229 (by decide) ?_
                    exact cP.wk (lS1 rfl lS0) (jn526 15 (by omega) (by omega) (by omega))
                · replace v517p := v517p.resolve_left (by omega)
                  refine s_aload_n kx_196_197 rfl ?_
                  refine s_ldc2_w kx_196_198 kp_196_335 ?_
                  refine s_callV2 (k := 63) (s1 := 3) (s2 := 0) (as := [(1, 7168376)]) (rest := []) kx_196_201 kp_196_361 (Or.inl rfl) rfl (tk_63 hT) ki_182 kcl_182 rfl rfl (by decide) (m_182 (d := d + 2) (w := 7168376) hT hI498) (kF (fun v639 v639p => ?_))
                  refine s_if_ne (t := 217) kx_196_204 (by decide) (fun hc640 => ?_) (fun hc640 => ?_)
                  · replace v639p := v639p.resolve_right (by omega)
                    refine s_aload_n kx_196_217 rfl ?_
                    refine s_ldc2_w kx_196_218 kp_196_333 ?_
                    refine s_callV2 (k := 63) (s1 := 3) (s2 := 0) (as := [(1, 7170414)]) (rest := []) kx_196_221 kp_196_361 (Or.inl rfl) rfl (tk_63 hT) ki_182 kcl_182 rfl rfl (by decide) (m_182 (d := d + 2) (w := 7170414) hT hI498) (kF (fun v641 v641p => ?_))
                    have jn648 : ∀ (y647 : Int), (15 ≤ y647) → (y647 ≤ 23) → ((y647 = 15 ∨ y647 = 16 ∨ y647 = 23)) → cP k_P xs Ln (d + 3) 196 249 [(0, rf 63)] [(0, y647)] (T, M498) (qW T M fS_196_m 0 (fun v M1 => 0 ≤ v ∧ v ≤ 1 ∧ (LXp M1 ∧ M 63 4 ≤ M1 63 4 ∧ M 63 9 ≤ M1 63 9 ∧ (OPd M M1 c a v ∧ KP M M1)))) := by
                      intro y647 a649 a650 a651
                      refine s_istore_n kx_196_249 km_196_3 rfl ?_
                      refine s_aload_n kx_196_250 rfl ?_
                      refine s_callV2 (k := 63) (s1 := 1) (s2 := 0) (as := []) (rest := []) kx_196_251 kp_196_286 (Or.inl rfl) rfl (tk_63 hT) ki_180 kcl_180 rfl rfl (by decide) (m_180 (d := d + 1) hT hI498) (kV (fun M653 hI653 fr653 v652p => ?_))
                      have hFm653 := hFm498.call fr653 rfl
                      have tr654 := (fr653 63 9 rfl)
                      have tr655 := (fr653 63 35 rfl)
                      have tr656 := (fr653 63 42 rfl)
                      have tr657 := (fr653 63 43 rfl)
                      have tr658 := (fr653 63 45 rfl)
                      have tr659 := rg_63_9 hI653
                      refine s_aload_n kx_196_254 rfl ?_
                      refine s_callV2 (k := 63) (s1 := 1) (s2 := 0) (as := []) (rest := []) kx_196_255 kp_196_280 (Or.inl rfl) rfl (tk_63 hT) ki_179 kcl_179 rfl rfl (by decide) (m_179 (d := d + 1) hT hI653) (kV (fun M661 hI661 fr661 v660p => ?_))
                      have hFm661 := hFm653.call fr661 rfl
                      have tr662 := (fr661 63 3 rfl)
                      have tr663 := (fr661 63 4 rfl)
                      have tr664 := (fr661 63 5 rfl)
                      have tr665 := (fr661 63 35 rfl)
                      have tr666 := (fr661 63 42 rfl)
                      have tr667 := (fr661 63 43 rfl)
                      have tr668 := (fr661 63 45 rfl)
                      have tr669 := rg_63_9 hI661
                      refine s_aload_n kx_196_258 rfl ?_
                      refine s_bipush (v := 40) kx_196_259 (by decide) ?_
                      refine s_callV2 (k := 63) (s1 := 2) (s2 := 0) (as := [(0, 40)]) (rest := []) kx_196_261 kp_196_283 (Or.inl rfl) rfl (tk_63 hT) ki_181 kcl_181 rfl rfl (by decide) (m_181 (d := d + 2) (c := 40) hT hI661) (kF (fun v670 v670p => ?_))
                      refine s_if_ne (t := 276) kx_196_264 (by decide) (fun hc671 => ?_) (fun hc671 => ?_)
                      · replace v670p := v670p.resolve_right (by omega)
                        refine s_aload_n kx_196_276 rfl ?_
                        refine s_iload_n kx_196_277 rfl ?_
                        refine s_bipush (v := 23) kx_196_278 (by decide) ?_
                        refine s_icmp_ne (t := 288) kx_196_280 (by decide) (fun hc672 => ?_) (fun hc672 => ?_)
                        · refine s_iconst (v := 3) kx_196_288 (by decide) ?_
                          refine s_callV2 (k := 63) (s1 := 2) (s2 := 0) (as := [(0, 3)]) (rest := []) kx_196_289 kp_196_367 (Or.inl rfl) rfl (tk_63 hT) ki_194 kcl_194 rfl rfl (by decide) (m_194 (d := d) (kind := 3) hT hI661 (LXp.fr (show LXp M653 from v652p.2) fr661 rfl) (PI.fr (PI.fr hP508 fr653 rfl) fr661 rfl) (B0.fr (B0.fr hB507 fr653 rfl (fun _ => rfl)) fr661 rfl (fun _ => rfl)) (by omega)) (kV (fun M674 hI674 fr674 v673p => ?_))
                          have hFm674 := hFm661.call fr674 rfl
                          have tr675 := (fr674 63 35 rfl)
                          have tr676 := (fr674 63 45 rfl)
                          have tr677 := rg_63_9 hI674
                          refine s_aload_n kx_196_292 rfl ?_
                          refine r_getI (k := 63) (f := 9) kx_196_293 kp_196_39 (tk_63 hT) kf_12_9 (fun _ => rfl) (rg_63_9 hI674) (fun v678 v678e v678a v678b => ?_)
                          refine s_if_ne (t := 311) kx_196_296 (by decide) (fun hc679 => ?_) (fun hc679 => ?_)
                          · refine s_iconst (v := 0) kx_196_311 (by decide) ?_
                            have hk680 : M674 63 9 = v678 := v678e
                            exact s_iret kx_196_312 (Or.inr ⟨kq_196, by omega⟩) ⟨_, _, rfl, rfl, hI674, hFm674, ⟨by omega, by omega, v673p.1, (by omega), (by omega), ⟨(Or.inl (by omega)), (KP.fr (KP.fr (KP.fr (KP.up (KP.fr (KP.refl (M := M)) fr2 (fun _ => rfl)) u498 (by decide)) fr653 (fun _ => rfl)) fr661 (fun _ => rfl)) fr674 (fun _ => rfl))⟩⟩⟩
                          · refine s_aload_n kx_196_299 rfl ?_
                            refine r_getR (k := 63) (f := 40) (k2 := 88) kx_196_300 kp_196_134 (tk_63 hT) kf_12_40 (by decide) (rq_63_40 hI674) ?_
                            refine s_aload_n kx_196_303 rfl ?_
                            refine r_getI (k := 63) (f := 42) kx_196_304 kp_196_140 (tk_63 hT) kf_12_42 (fun _ => rfl) (rg_63_42 hI674) (fun v681 v681e v681a v681b => ?_)
                            refine s_iconst (v := 1) kx_196_307 (by decide) ?_
                            refine r_sub kx_196_308 ⟨by omega, by omega⟩ ?_
                            refine s_iload_n kx_196_309 rfl ?_
                            refine r_ast (k := 88) kx_196_310 (tk_88 hT) ⟨by omega, by omega⟩ hI674 (ru_88 (by omega) (by omega)) (fun M682 hI682 u682 => ?_)
                            have hFm682 := hFm674.up u682 rfl
                            have tr683 := (u682.2 63 3 (by omega))
                            have tr684 := (u682.2 63 4 (by omega))
                            have tr685 := (u682.2 63 5 (by omega))
                            have tr686 := (u682.2 63 9 (by omega))
                            have tr687 := (u682.2 63 35 (by omega))
                            have tr688 := (u682.2 63 42 (by omega))
                            have tr689 := (u682.2 63 43 (by omega))
                            have tr690 := (u682.2 63 45 (by omega))
                            have hpp := (v673p.2.2.2.resolve_left (by omega)).2.2.2 _ _ (by rw [v681e]; exact u682) (by omega)
                            refine s_iconst (v := 0) kx_196_311 (by decide) ?_
                            have hk691 : M682 63 9 = v678 := ((u682.2 63 9 (by omega)).trans v678e)
                            exact s_iret kx_196_312 (Or.inr ⟨kq_196, by omega⟩) ⟨_, _, rfl, rfl, hI682, hFm682, ⟨by omega, by omega, (LXp.up v673p.1 u682 (Or.inl (by decide))), (by omega), (by omega), ⟨(Or.inr ⟨by omega, Or.inr ⟨rfl, PI.to7 hpp (by omega)⟩⟩), (KP.up (KP.fr (KP.fr (KP.fr (KP.up (KP.fr (KP.refl (M := M)) fr2 (fun _ => rfl)) u498 (by decide)) fr653 (fun _ => rfl)) fr661 (fun _ => rfl)) fr674 (fun _ => rfl)) u682 (by decide))⟩⟩⟩
                        · refine s_bipush (v := 6) kx_196_283 (by decide) ?_
                          refine s_goto (t := 289) kx_196_285 (by decide) ?_
                          refine s_callV2 (k := 63) (s1 := 2) (s2 := 0) (as := [(0, 6)]) (rest := []) kx_196_289 kp_196_367 (Or.inl rfl) rfl (tk_63 hT) ki_194 kcl_194 rfl rfl (by decide) (m_194 (d := d) (kind := 6) hT hI661 (LXp.fr (show LXp M653 from v652p.2) fr661 rfl) (PI.fr (PI.fr hP508 fr653 rfl) fr661 rfl) (B0.fr (B0.fr hB507 fr653 rfl (fun _ => rfl)) fr661 rfl (fun _ => rfl)) (by omega)) (kV (fun M693 hI693 fr693 v692p => ?_))
                          have hFm693 := hFm661.call fr693 rfl
                          have tr694 := (fr693 63 35 rfl)
                          have tr695 := (fr693 63 45 rfl)
                          have tr696 := rg_63_9 hI693
                          refine s_aload_n kx_196_292 rfl ?_
                          refine r_getI (k := 63) (f := 9) kx_196_293 kp_196_39 (tk_63 hT) kf_12_9 (fun _ => rfl) (rg_63_9 hI693) (fun v697 v697e v697a v697b => ?_)
                          refine s_if_ne (t := 311) kx_196_296 (by decide) (fun hc698 => ?_) (fun hc698 => ?_)
                          · refine s_iconst (v := 0) kx_196_311 (by decide) ?_
                            have hk699 : M693 63 9 = v697 := v697e
                            exact s_iret kx_196_312 (Or.inr ⟨kq_196, by omega⟩) ⟨_, _, rfl, rfl, hI693, hFm693, ⟨by omega, by omega, v692p.1, (by omega), (by omega), ⟨(Or.inl (by omega)), (KP.fr (KP.fr (KP.fr (KP.up (KP.fr (KP.refl (M := M)) fr2 (fun _ => rfl)) u498 (by decide)) fr653 (fun _ => rfl)) fr661 (fun _ => rfl)) fr693 (fun _ => rfl))⟩⟩⟩
                          · refine s_aload_n kx_196_299 rfl ?_
                            refine r_getR (k := 63) (f := 40) (k2 := 88) kx_196_300 kp_196_134 (tk_63 hT) kf_12_40 (by decide) (rq_63_40 hI693) ?_
                            refine s_aload_n kx_196_303 rfl ?_
                            refine r_getI (k := 63) (f := 42) kx_196_304 kp_196_140 (tk_63 hT) kf_12_42 (fun _ => rfl) (rg_63_42 hI693) (fun v700 v700e v700a v700b => ?_)
                            refine s_iconst (v := 1) kx_196_307 (by decide) ?_
                            refine r_sub kx_196_308 ⟨by omega, by omega⟩ ?_
                            refine s_iload_n kx_196_309 rfl ?_
                            refine r_ast (k := 88) kx_196_310 (tk_88 hT) ⟨by omega, by omega⟩ hI693 (ru_88 (by omega) (by omega)) (fun M701 hI701 u701 => ?_)
                            have hFm701 := hFm693.up u701 rfl
                            have tr702 := (u701.2 63 3 (by omega))
                            have tr703 := (u701.2 63 4 (by omega))
                            have tr704 := (u701.2 63 5 (by omega))
                            have tr705 := (u701.2 63 9 (by omega))
                            have tr706 := (u701.2 63 35 (by omega))
                            have tr707 := (u701.2 63 42 (by omega))
                            have tr708 := (u701.2 63 43 (by omega))
                            have tr709 := (u701.2 63 45 (by omega))
                            have hpp := (v692p.2.2.2.resolve_left (by omega)).2.2.2 _ _ (by rw [v700e]; exact u701) (by omega)
                            refine s_iconst (v := 0) kx_196_311 (by decide) ?_
                            have hk710 : M701 63 9 = v697 := ((u701.2 63 9 (by omega)).trans v697e)
                            exact s_iret kx_196_312 (Or.inr ⟨kq_196, by omega⟩) ⟨_, _, rfl, rfl, hI701, hFm701, ⟨by omega, by omega, (LXp.up v692p.1 u701 (Or.inl (by decide))), (by omega), (by omega), ⟨(Or.inr ⟨by omega, Or.inr ⟨rfl, PI.to7 hpp (by omega)⟩⟩), (KP.up (KP.fr (KP.fr (KP.fr (KP.up (KP.fr (KP.refl (M := M)) fr2 (fun _ => rfl)) u498 (by decide)) fr653 (fun _ => rfl)) fr661 (fun _ => rfl)) fr693 (fun _ => rfl)) u701 (by decide))⟩⟩⟩
                      · replace v670p := v670p.resolve_left (by omega)
                        refine s_aload_n kx_196_267 rfl ?_
                        refine s_iconst (v := 1) kx_196_268 (by decide) ?_
                        refine s_aload_n kx_196_269 rfl ?_
                        refine r_getI (k := 63) (f := 4) kx_196_270 kp_196_23 (tk_63 hT) kf_12_4 (fun _ => rfl) (rg_63_4 hI661) (fun v711 v711e v711a v711b => ?_)
                        refine s_callV2 (k := 63) (s1 := 3) (s2 := 0) (as := [(0, v711), (0, 1)]) (rest := []) kx_196_273 kp_196_263 (Or.inl rfl) rfl (tk_63 hT) ki_176 kcl_176 rfl rfl (by decide) (m_176 (d := d + 2) (kind := 1) (place := v711) hT hI661 (by omega)) (kV (fun M713 hI713 fr713 v712p => ?_))
                        have hFm713 := hFm661.call fr713 rfl
                        have tr714 := (fr713 63 3 rfl)
                        have tr715 := (fr713 63 4 rfl)
                        have tr716 := (fr713 63 5 rfl)
                        have tr717 := (fr713 63 35 rfl)
                        have tr718 := (fr713 63 42 rfl)
                        have tr719 := (fr713 63 43 rfl)
                        have tr720 := (fr713 63 45 rfl)
                        have tr721 := rg_63_9 hI713
                        refine s_aload_n kx_196_276 rfl ?_
                        refine s_iload_n kx_196_277 rfl ?_
                        refine s_bipush (v := 23) kx_196_278 (by decide) ?_
                        refine s_icmp_ne (t := 288) kx_196_280 (by decide) (fun hc722 => ?_) (fun hc722 => ?_)
                        · refine s_iconst (v := 3) kx_196_288 (by decide) ?_
                          refine s_callV2 (k := 63) (s1 := 2) (s2 := 0) (as := [(0, 3)]) (rest := []) kx_196_289 kp_196_367 (Or.inl rfl) rfl (tk_63 hT) ki_194 kcl_194 rfl rfl (by decide) (m_194 (d := d) (kind := 3) hT hI713 (LXp.fr (LXp.fr (show LXp M653 from v652p.2) fr661 rfl) fr713 rfl) (PI.fr (PI.fr (PI.fr hP508 fr653 rfl) fr661 rfl) fr713 rfl) (B0.fr (B0.fr (B0.fr hB507 fr653 rfl (fun _ => rfl)) fr661 rfl (fun _ => rfl)) fr713 rfl (fun _ => rfl)) (by omega)) (kV (fun M724 hI724 fr724 v723p => ?_))
                          have hFm724 := hFm713.call fr724 rfl
                          have tr725 := (fr724 63 35 rfl)
                          have tr726 := (fr724 63 45 rfl)
                          have tr727 := rg_63_9 hI724
                          refine s_aload_n kx_196_292 rfl ?_
                          refine r_getI (k := 63) (f := 9) kx_196_293 kp_196_39 (tk_63 hT) kf_12_9 (fun _ => rfl) (rg_63_9 hI724) (fun v728 v728e v728a v728b => ?_)
                          refine s_if_ne (t := 311) kx_196_296 (by decide) (fun hc729 => ?_) (fun hc729 => ?_)
                          · refine s_iconst (v := 0) kx_196_311 (by decide) ?_
                            have hk730 : M724 63 9 = v728 := v728e
                            exact s_iret kx_196_312 (Or.inr ⟨kq_196, by omega⟩) ⟨_, _, rfl, rfl, hI724, hFm724, ⟨by omega, by omega, v723p.1, (by omega), (by omega), ⟨(Or.inl (by omega)), (KP.fr (KP.fr (KP.fr (KP.fr (KP.up (KP.fr (KP.refl (M := M)) fr2 (fun _ => rfl)) u498 (by decide)) fr653 (fun _ => rfl)) fr661 (fun _ => rfl)) fr713 (fun _ => rfl)) fr724 (fun _ => rfl))⟩⟩⟩
                          · refine s_aload_n kx_196_299 rfl ?_
                            refine r_getR (k := 63) (f := 40) (k2 := 88) kx_196_300 kp_196_134 (tk_63 hT) kf_12_40 (by decide) (rq_63_40 hI724) ?_
                            refine s_aload_n kx_196_303 rfl ?_
                            refine r_getI (k := 63) (f := 42) kx_196_304 kp_196_140 (tk_63 hT) kf_12_42 (fun _ => rfl) (rg_63_42 hI724) (fun v731 v731e v731a v731b => ?_)
                            refine s_iconst (v := 1) kx_196_307 (by decide) ?_
                            refine r_sub kx_196_308 ⟨by omega, by omega⟩ ?_
                            refine s_iload_n kx_196_309 rfl ?_
                            refine r_ast (k := 88) kx_196_310 (tk_88 hT) ⟨by omega, by omega⟩ hI724 (ru_88 (by omega) (by omega)) (fun M732 hI732 u732 => ?_)
                            have hFm732 := hFm724.up u732 rfl
                            have tr733 := (u732.2 63 3 (by omega))
                            have tr734 := (u732.2 63 4 (by omega))
                            have tr735 := (u732.2 63 5 (by omega))
                            have tr736 := (u732.2 63 9 (by omega))
                            have tr737 := (u732.2 63 35 (by omega))
                            have tr738 := (u732.2 63 42 (by omega))
                            have tr739 := (u732.2 63 43 (by omega))
                            have tr740 := (u732.2 63 45 (by omega))
                            have hpp := (v723p.2.2.2.resolve_left (by omega)).2.2.2 _ _ (by rw [v731e]; exact u732) (by omega)
                            refine s_iconst (v := 0) kx_196_311 (by decide) ?_
                            have hk741 : M732 63 9 = v728 := ((u732.2 63 9 (by omega)).trans v728e)
                            exact s_iret kx_196_312 (Or.inr ⟨kq_196, by omega⟩) ⟨_, _, rfl, rfl, hI732, hFm732, ⟨by omega, by omega, (LXp.up v723p.1 u732 (Or.inl (by decide))), (by omega), (by omega), ⟨(Or.inr ⟨by omega, Or.inr ⟨rfl, PI.to7 hpp (by omega)⟩⟩), (KP.up (KP.fr (KP.fr (KP.fr (KP.fr (KP.up (KP.fr (KP.refl (M := M)) fr2 (fun _ => rfl)) u498 (by decide)) fr653 (fun _ => rfl)) fr661 (fun _ => rfl)) fr713 (fun _ => rfl)) fr724 (fun _ => rfl)) u732 (by decide))⟩⟩⟩
                        · refine s_bipush (v := 6) kx_196_283 (by decide) ?_
                          refine s_goto (t := 289) kx_196_285 (by decide) ?_
                          refine s_callV2 (k := 63) (s1 := 2) (s2 := 0) (as := [(0, 6)]) (rest := []) kx_196_289 kp_196_367 (Or.inl rfl) rfl (tk_63 hT) ki_194 kcl_194 rfl rfl (by decide) (m_194 (d := d) (kind := 6) hT hI713 (LXp.fr (LXp.fr (show LXp M653 from v652p.2) fr661 rfl) fr713 rfl) (PI.fr (PI.fr (PI.fr hP508 fr653 rfl) fr661 rfl) fr713 rfl) (B0.fr (B0.fr (B0.fr hB507 fr653 rfl (fun _ => rfl)) fr661 rfl (fun _ => rfl)) fr713 rfl (fun _ => rfl)) (by omega)) (kV (fun M743 hI743 fr743 v742p => ?_))
                          have hFm743 := hFm713.call fr743 rfl
                          have tr744 := (fr743 63 35 rfl)
                          have tr745 := (fr743 63 45 rfl)
                          have tr746 := rg_63_9 hI743
                          refine s_aload_n kx_196_292 rfl ?_
                          refine r_getI (k := 63) (f := 9) kx_196_293 kp_196_39 (tk_63 hT) kf_12_9 (fun _ => rfl) (rg_63_9 hI743) (fun v747 v747e v747a v747b => ?_)
                          refine s_if_ne (t := 311) kx_196_296 (by decide) (fun hc748 => ?_) (fun hc748 => ?_)
                          · refine s_iconst (v := 0) kx_196_311 (by decide) ?_
                            have hk749 : M743 63 9 = v747 := v747e
                            exact s_iret kx_196_312 (Or.inr ⟨kq_196, by omega⟩) ⟨_, _, rfl, rfl, hI743, hFm743, ⟨by omega, by omega, v742p.1, (by omega), (by omega), ⟨(Or.inl (by omega)), (KP.fr (KP.fr (KP.fr (KP.fr (KP.up (KP.fr (KP.refl (M := M)) fr2 (fun _ => rfl)) u498 (by decide)) fr653 (fun _ => rfl)) fr661 (fun _ => rfl)) fr713 (fun _ => rfl)) fr743 (fun _ => rfl))⟩⟩⟩
                          · refine s_aload_n kx_196_299 rfl ?_
                            refine r_getR (k := 63) (f := 40) (k2 := 88) kx_196_300 kp_196_134 (tk_63 hT) kf_12_40 (by decide) (rq_63_40 hI743) ?_
                            refine s_aload_n kx_196_303 rfl ?_
                            refine r_getI (k := 63) (f := 42) kx_196_304 kp_196_140 (tk_63 hT) kf_12_42 (fun _ => rfl) (rg_63_42 hI743) (fun v750 v750e v750a v750b => ?_)
                            refine s_iconst (v := 1) kx_196_307 (by decide) ?_
                            refine r_sub kx_196_308 ⟨by omega, by omega⟩ ?_
                            refine s_iload_n kx_196_309 rfl ?_
                            refine r_ast (k := 88) kx_196_310 (tk_88 hT) ⟨by omega, by omega⟩ hI743 (ru_88 (by omega) (by omega)) (fun M751 hI751 u751 => ?_)
                            have hFm751 := hFm743.up u751 rfl
                            have tr752 := (u751.2 63 3 (by omega))
                            have tr753 := (u751.2 63 4 (by omega))
                            have tr754 := (u751.2 63 5 (by omega))
                            have tr755 := (u751.2 63 9 (by omega))
                            have tr756 := (u751.2 63 35 (by omega))
                            have tr757 := (u751.2 63 42 (by omega))
                            have tr758 := (u751.2 63 43 (by omega))
                            have tr759 := (u751.2 63 45 (by omega))
                            have hpp := (v742p.2.2.2.resolve_left (by omega)).2.2.2 _ _ (by rw [v750e]; exact u751) (by omega)
                            refine s_iconst (v := 0) kx_196_311 (by decide) ?_
                            have hk760 : M751 63 9 = v747 := ((u751.2 63 9 (by omega)).trans v747e)
                            exact s_iret kx_196_312 (Or.inr ⟨kq_196, by omega⟩) ⟨_, _, rfl, rfl, hI751, hFm751, ⟨by omega, by omega, (LXp.up v742p.1 u751 (Or.inl (by decide))), (by omega), (by omega), ⟨(Or.inr ⟨by omega, Or.inr ⟨rfl, PI.to7 hpp (by omega)⟩⟩), (KP.up (KP.fr (KP.fr (KP.fr (KP.fr (KP.up (KP.fr (KP.refl (M := M)) fr2 (fun _ => rfl)) u498 (by decide)) fr653 (fun _ => rfl)) fr661 (fun _ => rfl)) fr713 (fun _ => rfl)) fr743 (fun _ => rfl)) u751 (by decide))⟩⟩⟩
                    refine s_if_eq (t := 232) kx_196_224 (by decide) (fun hc642 => ?_) (fun hc642 => ?_)
                    · have hJ643 : Fr fS_196_j224 M498 M498 := Fr.refl
                      replace v641p := v641p.resolve_left (by omega)
                      refine s_aload_n kx_196_232 rfl ?_
                      refine s_ldc2_w kx_196_233 kp_196_335 ?_
                      refine s_callV2 (k := 63) (s1 := 3) (s2 := 0) (as := [(1, 7168376)]) (rest := []) kx_196_236 kp_196_361 (Or.inl rfl) rfl (tk_63 hT) ki_182 kcl_182 rfl rfl (by decide) (m_182 (d := d + 2) (w := 7168376) hT hI498) (kF (fun v644 v644p => ?_))
                      refine s_if_eq (t := 247) kx_196_239 (by decide) (fun hc645 => ?_) (fun hc645 => ?_)
                      · replace v644p := v644p.resolve_left (by omega)
                        refine s_bipush (v := 23) kx_196_247 (by decide) ?_
                        exact cP.wk (lS1 rfl lS0) (jn648 23 (by omega) (by omega) (by omega))
                      · replace v644p := v644p.resolve_right (by omega)
                        refine s_bipush (v := 16) kx_196_242 (by decide) ?_
                        refine s_goto (t := 249) kx_196_244 (by decide) ?_
                        exact cP.wk (lS1 rfl lS0) (jn648 16 (by omega) (by omega) (by omega))
                    · have hJ646 : Fr fS_196_j224 M498 M498 := Fr.refl
                      replace v641p := v641p.resolve_right (by omega)
                      refine s_bipush (v := 15) kx_196_227 (by decide) ?_
                      refine s_goto (t := 249) kx_196_229 (by decide) ?_
                      exact cP.wk (lS1 rfl lS0) (jn648 15 (by omega) (by omega) (by omega))
                  · replace v639p := v639p.resolve_left (by omega)
                    refine s_aload_n kx_196_207 rfl ?_
                    refine s_ldc2_w kx_196_208 kp_196_323 ?_
                    refine s_callV2 (k := 63) (s1 := 3) (s2 := 0) (as := [(1, 26982)]) (rest := []) kx_196_211 kp_196_361 (Or.inl rfl) rfl (tk_63 hT) ki_182 kcl_182 rfl rfl (by decide) (m_182 (d := d + 2) (w := 26982) hT hI498) (kF (fun v761 v761p => ?_))
                    refine s_if_eq (t := 313) kx_196_214 (by decide) (fun hc762 => ?_) (fun hc762 => ?_)
                    · replace v761p := v761p.resolve_left (by omega)
                      refine s_aload_n kx_196_313 rfl ?_
                      refine r_getI (k := 63) (f := 3) kx_196_314 kp_196_20 (tk_63 hT) kf_12_3 (fun _ => rfl) (rg_63_3 hI498) (fun v763 v763e v763a v763b => ?_)
                      have v763z : M 63 3 = v763 := (((u498.2 63 3 (by omega)).trans (fr2 63 3 rfl))).symm.trans v763e
                      refine s_iconst (v := 2) kx_196_317 (by decide) ?_
                      have jn780 : ∀ (y779 : Int), ((-1) ≤ y779) → (y779 ≤ 6) → ((y779 = -1 ∨ M498 63 3 ≠ 0)) → cP k_P xs Ln (d + 3) 196 411 [(0, rf 63)] [(0, y779)] (T, M498) (qW T M fS_196_m 0 (fun v M1 => 0 ≤ v ∧ v ≤ 1 ∧ (LXp M1 ∧ M 63 4 ≤ M1 63 4 ∧ M 63 9 ≤ M1 63 9 ∧ (OPd M M1 c a v ∧ KP M M1)))) := by
                        intro y779 a781 a782 a783
                        refine s_istore_n kx_196_411 km_196_3 rfl ?_
                        refine s_iload_n kx_196_412 rfl ?_
                        refine s_iconst (v := (-1)) kx_196_413 (by decide) ?_
                        refine s_icmp_ne (t := 426) kx_196_414 (by decide) (fun hc784 => ?_) (fun hc784 => ?_)
                        · refine s_aload_n kx_196_426 rfl ?_
                          refine r_getK (k := 63) (f := 9) kx_196_427 kp_196_39 (tk_63 hT) kf_12_9 (fun _ => rfl) ((u498.2 63 9 (by omega)).trans v11e) ?_
                          refine s_if_le (t := 435) kx_196_430 (by decide) (fun hc785 => ?_) (fun hc785 => absurd hc785 (by omega))
                          refine s_aload_n kx_196_435 rfl ?_
                          refine s_iload_n kx_196_436 rfl ?_
                          refine s_aload_n kx_196_437 rfl ?_
                          refine r_getU (k := 63) (f := 6) kx_196_438 kp_196_29 (tk_63 hT) kf_12_6 (fun _ => rfl) (fun v786 v786e => ?_)
                          have v786z : M 63 6 = v786 := (((u498.2 63 6 (by omega)).trans (fr2 63 6 rfl))).symm.trans v786e
                          refine s_callV2 (k := 63) (s1 := 3) (s2 := 0) (as := [(0, v786), (0, y779)]) (rest := []) kx_196_441 kp_196_352 (Or.inl rfl) rfl (tk_63 hT) ki_189 kcl_189 rfl rfl (by decide) (m_189 (d := d + 2) (sort := y779) (v_ := v786) hT hI498 (by omega) (by omega)) (kV (fun M788 hI788 fr788 v787p => ?_))
                          have hFm788 := hFm498.call fr788 rfl
                          have tr789 := (fr788 63 3 rfl)
                          have tr790 := (fr788 63 4 rfl)
                          have tr791 := (fr788 63 5 rfl)
                          have tr792 := (fr788 63 9 rfl)
                          have tr793 := (fr788 63 42 rfl)
                          have tr794 := (fr788 63 43 rfl)
                          have tr795 := (fr788 63 45 rfl)
                          have tr796 := rg_63_9 hI788
                          have hP797 := PI.codeV hP508 (by omega) (by omega) (by decide) (by decide) fr788 v787p.1 v787p.2.1 v787p.2.2
                          have hK798 := KP.add (KP.up (KP.fr (KP.refl (M := M)) fr2 (fun _ => rfl)) u498 (by decide)) ((u498.2 63 36 (by omega)).trans (fr2 63 36 rfl)) ⟨(rg_63_35 hI498).1, by omega⟩ (rg_63_36 hI498).1 v787p.2.2
                          refine s_aload_n kx_196_444 rfl ?_
                          refine s_callV2 (k := 63) (s1 := 1) (s2 := 0) (as := []) (rest := []) kx_196_445 kp_196_286 (Or.inl rfl) rfl (tk_63 hT) ki_180 kcl_180 rfl rfl (by decide) (m_180 (d := d + 1) hT hI788) (kV (fun M800 hI800 fr800 v799p => ?_))
                          have hFm800 := hFm788.call fr800 rfl
                          have tr801 := (fr800 63 9 rfl)
                          have tr802 := (fr800 63 35 rfl)
                          have tr803 := (fr800 63 42 rfl)
                          have tr804 := (fr800 63 43 rfl)
                          have tr805 := (fr800 63 45 rfl)
                          have tr806 := rg_63_9 hI800
                          refine s_iconst (v := 1) kx_196_448 (by decide) ?_
                          have hk807 : M800 63 9 = v11 := ((fr800 63 9 rfl).trans ((fr788 63 9 rfl).trans ((u498.2 63 9 (by omega)).trans v11e)))
                          exact s_iret kx_196_449 (Or.inr ⟨kq_196, by omega⟩) ⟨_, _, rfl, rfl, hI800, hFm800, ⟨by omega, by omega, (show LXp M800 from v799p.2), (by omega), (by omega), ⟨(Or.inr ⟨by omega, Or.inl ⟨rfl, (B0.fr (B0.fr hB507 fr788 rfl (fun _ => rfl)) fr800 rfl (fun _ => rfl)), PI.to7 (PI.fr hP797 fr800 rfl) (by omega)⟩⟩), (KP.fr hK798 fr800 (fun _ => rfl))⟩⟩⟩
                        · refine s_aload_n kx_196_417 rfl ?_
                          refine s_iconst (v := 1) kx_196_418 (by decide) ?_
                          refine s_aload_n kx_196_419 rfl ?_
                          refine r_getI (k := 63) (f := 4) kx_196_420 kp_196_23 (tk_63 hT) kf_12_4 (fun _ => rfl) (rg_63_4 hI498) (fun v808 v808e v808a v808b => ?_)
                          have v808z : M 63 4 = v808 := (((u498.2 63 4 (by omega)).trans (fr2 63 4 rfl))).symm.trans v808e
                          refine s_callV2 (k := 63) (s1 := 3) (s2 := 0) (as := [(0, v808), (0, 1)]) (rest := []) kx_196_423 kp_196_263 (Or.inl rfl) rfl (tk_63 hT) ki_176 kcl_176 rfl rfl (by decide) (m_176 (d := d + 2) (kind := 1) (place := v808) hT hI498 (by omega)) (kV (fun M810 hI810 fr810 v809p => ?_))
                          have hFm810 := hFm498.call fr810 rfl
                          have tr811 := (fr810 63 3 rfl)
                          have tr812 := (fr810 63 4 rfl)
                          have tr813 := (fr810 63 5 rfl)
                          have tr814 := (fr810 63 35 rfl)
                          have tr815 := (fr810 63 42 rfl)
                          have tr816 := (fr810 63 43 rfl)
                          have tr817 := (fr810 63 45 rfl)
                          have tr818 := rg_63_9 hI810
                          refine s_aload_n kx_196_426 rfl ?_
                          refine r_getI (k := 63) (f := 9) kx_196_427 kp_196_39 (tk_63 hT) kf_12_9 (fun _ => rfl) (rg_63_9 hI810) (fun v819 v819e v819a v819b => ?_)
                          refine s_if_le (t := 435) kx_196_430 (by decide) (fun hc820 => ?_) (fun hc820 => ?_)
                          · refine s_aload_n kx_196_435 rfl ?_
                            refine s_iload_n kx_196_436 rfl ?_
                            refine s_aload_n kx_196_437 rfl ?_
                            refine r_getU (k := 63) (f := 6) kx_196_438 kp_196_29 (tk_63 hT) kf_12_6 (fun _ => rfl) (fun v821 v821e => ?_)
                            have v821z : M 63 6 = v821 := (((fr810 63 6 rfl).trans ((u498.2 63 6 (by omega)).trans (fr2 63 6 rfl)))).symm.trans v821e
                            refine s_callV2 (k := 63) (s1 := 3) (s2 := 0) (as := [(0, v821), (0, y779)]) (rest := []) kx_196_441 kp_196_352 (Or.inl rfl) rfl (tk_63 hT) ki_189 kcl_189 rfl rfl (by decide) (m_189 (d := d + 2) (sort := y779) (v_ := v821) hT hI810 (by omega) (by omega)) (kV (fun M823 hI823 fr823 v822p => ?_))
                            have hFm823 := hFm810.call fr823 rfl
                            have tr824 := (fr823 63 3 rfl)
                            have tr825 := (fr823 63 4 rfl)
                            have tr826 := (fr823 63 5 rfl)
                            have tr827 := (fr823 63 9 rfl)
                            have tr828 := (fr823 63 42 rfl)
                            have tr829 := (fr823 63 43 rfl)
                            have tr830 := (fr823 63 45 rfl)
                            have tr831 := rg_63_9 hI823
                            have hP832 := PI.codeV (PI.fr hP508 fr810 rfl) (by omega) (by omega) (by decide) (by decide) fr823 v822p.1 v822p.2.1 v822p.2.2
                            have hK833 := KP.add (KP.fr (KP.up (KP.fr (KP.refl (M := M)) fr2 (fun _ => rfl)) u498 (by decide)) fr810 (fun _ => rfl)) ((fr810 63 36 rfl).trans ((u498.2 63 36 (by omega)).trans (fr2 63 36 rfl))) ⟨(rg_63_35 hI810).1, by omega⟩ (rg_63_36 hI810).1 v822p.2.2
                            refine s_aload_n kx_196_444 rfl ?_
                            refine s_callV2 (k := 63) (s1 := 1) (s2 := 0) (as := []) (rest := []) kx_196_445 kp_196_286 (Or.inl rfl) rfl (tk_63 hT) ki_180 kcl_180 rfl rfl (by decide) (m_180 (d := d + 1) hT hI823) (kV (fun M835 hI835 fr835 v834p => ?_))
                            have hFm835 := hFm823.call fr835 rfl
                            have tr836 := (fr835 63 9 rfl)
                            have tr837 := (fr835 63 35 rfl)
                            have tr838 := (fr835 63 42 rfl)
                            have tr839 := (fr835 63 43 rfl)
                            have tr840 := (fr835 63 45 rfl)
                            have tr841 := rg_63_9 hI835
                            refine s_iconst (v := 1) kx_196_448 (by decide) ?_
                            have hk842 : M835 63 9 = v819 := ((fr835 63 9 rfl).trans ((fr823 63 9 rfl).trans v819e))
                            exact s_iret kx_196_449 (Or.inr ⟨kq_196, by omega⟩) ⟨_, _, rfl, rfl, hI835, hFm835, ⟨by omega, by omega, (show LXp M835 from v834p.2), (by omega), (by omega), ⟨(Or.inr ⟨by omega, Or.inl ⟨rfl, (B0.fr (B0.fr (B0.fr hB507 fr810 rfl (fun _ => rfl)) fr823 rfl (fun _ => rfl)) fr835 rfl (fun _ => rfl)), PI.to7 (PI.fr hP832 fr835 rfl) (by omega)⟩⟩), (KP.fr hK833 fr835 (fun _ => rfl))⟩⟩⟩
                          · refine s_iconst (v := 1) kx_196_433 (by decide) ?_
                            have hk843 : M810 63 3 = v763 := ((fr810 63 3 rfl).trans v763e)
                            have hk844 : M810 63 4 = v808 := ((fr810 63 4 rfl).trans v808e)
                            have hk845 : M810 63 9 = v819 := v819e
                            exact s_iret kx_196_434 (Or.inr ⟨kq_196, by omega⟩) ⟨_, _, rfl, rfl, hI810, hFm810, ⟨by omega, by omega, (LXp.fr (LXp.up (LXp.fr hX fr2 rfl) u498 (Or.inl (by decide))) fr810 rfl), (by omega), (by omega), ⟨(Or.inl (by omega)), (KP.fr (KP.up (KP.fr (KP.refl (M := M)) fr2 (fun _ => rfl)) u498 (by decide)) fr810 (fun _ => rfl))⟩⟩⟩
                      refine s_icmp_ne (t := 325) kx_196_318 (by decide) (fun hc764 => ?_) (fun hc764 => ?_)
                      · have hJ765 : Fr fS_196_j318 M498 M498 := Fr.refl
                        refine s_aload_n kx_196_325 rfl ?_
                        refine s_ldc2_w kx_196_326 kp_196_297 ?_
                        refine s_callV2 (k := 63) (s1 := 3) (s2 := 0) (as := [(1, 499850634611)]) (rest := []) kx_196_329 kp_196_361 (Or.inl rfl) rfl (tk_63 hT) ki_182 kcl_182 rfl rfl (by decide) (m_182 (d := d + 2) (w := 499850634611) hT hI498) (kF (fun v766 v766p => ?_))
                        refine s_if_eq (t := 339) kx_196_332 (by decide) (fun hc767 => ?_) (fun hc767 => ?_)
                        · replace v766p := v766p.resolve_left (by omega)
                          refine s_aload_n kx_196_339 rfl ?_
                          refine s_ldc2_w kx_196_340 kp_196_317 ?_
                          refine s_callV2 (k := 63) (s1 := 3) (s2 := 0) (as := [(1, 131277443786868)]) (rest := []) kx_196_343 kp_196_361 (Or.inl rfl) rfl (tk_63 hT) ki_182 kcl_182 rfl rfl (by decide) (m_182 (d := d + 2) (w := 131277443786868) hT hI498) (kF (fun v768 v768p => ?_))
                          refine s_if_eq (t := 353) kx_196_346 (by decide) (fun hc769 => ?_) (fun hc769 => ?_)
                          · replace v768p := v768p.resolve_left (by omega)
                            refine s_aload_n kx_196_353 rfl ?_
                            refine s_ldc2_w kx_196_354 kp_196_301 ?_
                            refine s_callV2 (k := 63) (s1 := 3) (s2 := 0) (as := [(1, 126943973305959)]) (rest := []) kx_196_357 kp_196_361 (Or.inl rfl) rfl (tk_63 hT) ki_182 kcl_182 rfl rfl (by decide) (m_182 (d := d + 2) (w := 126943973305959) hT hI498) (kF (fun v770 v770p => ?_))
                            refine s_if_eq (t := 367) kx_196_360 (by decide) (fun hc771 => ?_) (fun hc771 => ?_)
                            · replace v770p := v770p.resolve_left (by omega)
                              refine s_aload_n kx_196_367 rfl ?_
                              refine s_ldc2_w kx_196_368 kp_196_305 ?_
                              refine s_callV2 (k := 63) (s1 := 3) (s2 := 0) (as := [(1, 2003395685)]) (rest := []) kx_196_371 kp_196_361 (Or.inl rfl) rfl (tk_63 hT) ki_182 kcl_182 rfl rfl (by decide) (m_182 (d := d + 2) (w := 2003395685) hT hI498) (kF (fun v772 v772p => ?_))
                              refine s_if_eq (t := 381) kx_196_374 (by decide) (fun hc773 => ?_) (fun hc773 => ?_)
                              · replace v772p := v772p.resolve_left (by omega)
                                refine s_aload_n kx_196_381 rfl ?_
                                refine s_ldc2_w kx_196_382 kp_196_319 ?_
                                refine s_callV2 (k := 63) (s1 := 3) (s2 := 0) (as := [(1, 427021001579)]) (rest := []) kx_196_385 kp_196_361 (Or.inl rfl) rfl (tk_63 hT) ki_182 kcl_182 rfl rfl (by decide) (m_182 (d := d + 2) (w := 427021001579) hT hI498) (kF (fun v774 v774p => ?_))
                                refine s_if_eq (t := 395) kx_196_388 (by decide) (fun hc775 => ?_) (fun hc775 => ?_)
                                · replace v774p := v774p.resolve_left (by omega)
                                  refine s_aload_n kx_196_395 rfl ?_
                                  refine s_ldc2_w kx_196_396 kp_196_321 ?_
                                  refine s_callV2 (k := 63) (s1 := 3) (s2 := 0) (as := [(1, 7305070)]) (rest := []) kx_196_399 kp_196_361 (Or.inl rfl) rfl (tk_63 hT) ki_182 kcl_182 rfl rfl (by decide) (m_182 (d := d + 2) (w := 7305070) hT hI498) (kF (fun v776 v776p => ?_))
                                  refine s_if_eq (t := 410) kx_196_402 (by decide) (fun hc777 => ?_) (fun hc777 => ?_)
                                  · replace v776p := v776p.resolve_left (by omega)
                                    refine s_iconst (v := (-1)) kx_196_410 (by decide) ?_
                                    exact cP.wk (lS1 rfl lS0) (jn780 (-1) (by omega) (by omega) (by omega))
                                  · replace v776p := v776p.resolve_right (by omega)
                                    refine s_bipush (v := 6) kx_196_405 (by decide) ?_
                                    refine s_goto (t := 411) kx_196_407 (by decide) ?_
                                    exact cP.wk (lS1 rfl lS0) (jn780 6 (by omega) (by omega) (by omega))
                                · replace v774p := v774p.resolve_right (by omega)
                                  refine s_iconst (v := 5) kx_196_391 (by decide) ?_
                                  refine s_goto (t := 411) kx_196_392 (by decide) ?_
                                  exact cP.wk (lS1 rfl lS0) (jn780 5 (by omega) (by omega) (by omega))
                              · replace v772p := v772p.resolve_right (by omega)
                                refine s_iconst (v := 4) kx_196_377 (by decide) ?_
                                refine s_goto (t := 411) kx_196_378 (by decide) ?_
                                exact cP.wk (lS1 rfl lS0) (jn780 4 (by omega) (by omega) (by omega))
                            · replace v770p := v770p.resolve_right (by omega)
                              refine s_iconst (v := 3) kx_196_363 (by decide) ?_
                              refine s_goto (t := 411) kx_196_364 (by decide) ?_
                              exact cP.wk (lS1 rfl lS0) (jn780 3 (by omega) (by omega) (by omega))
                          · replace v768p := v768p.resolve_right (by omega)
                            refine s_iconst (v := 2) kx_196_349 (by decide) ?_
                            refine s_goto (t := 411) kx_196_350 (by decide) ?_
                            exact cP.wk (lS1 rfl lS0) (jn780 2 (by omega) (by omega) (by omega))
                        · replace v766p := v766p.resolve_right (by omega)
                          refine s_iconst (v := 1) kx_196_335 (by decide) ?_
                          refine s_goto (t := 411) kx_196_336 (by decide) ?_
                          exact cP.wk (lS1 rfl lS0) (jn780 1 (by omega) (by omega) (by omega))
                      · have hJ778 : Fr fS_196_j318 M498 M498 := Fr.refl
                        refine s_iconst (v := 0) kx_196_321 (by decide) ?_
                        refine s_goto (t := 411) kx_196_322 (by decide) ?_
                        exact cP.wk (lS1 rfl lS0) (jn780 0 (by omega) (by omega) (by omega))
                    · replace v761p := v761p.resolve_right (by omega)
                      refine s_aload_n kx_196_217 rfl ?_
                      refine s_ldc2_w kx_196_218 kp_196_333 ?_
                      refine s_callV2 (k := 63) (s1 := 3) (s2 := 0) (as := [(1, 7170414)]) (rest := []) kx_196_221 kp_196_361 (Or.inl rfl) rfl (tk_63 hT) ki_182 kcl_182 rfl rfl (by decide) (m_182 (d := d + 2) (w := 7170414) hT hI498) (kF (fun v846 v846p => ?_))
                      have jn853 : ∀ (y852 : Int), (15 ≤ y852) → (y852 ≤ 23) → ((y852 = 15 ∨ y852 = 16 ∨ y852 = 23)) → cP k_P xs Ln (d + 3) 196 249 [(0, rf 63)] [(0, y852)] (T, M498) (qW T M fS_196_m 0 (fun v M1 => 0 ≤ v ∧ v ≤ 1 ∧ (LXp M1 ∧ M 63 4 ≤ M1 63 4 ∧ M 63 9 ≤ M1 63 9 ∧ (OPd M M1 c a v ∧ KP M M1)))) := by
                        intro y852 a854 a855 a856
                        refine s_istore_n kx_196_249 km_196_3 rfl ?_
                        refine s_aload_n kx_196_250 rfl ?_
                        refine s_callV2 (k := 63) (s1 := 1) (s2 := 0) (as := []) (rest := []) kx_196_251 kp_196_286 (Or.inl rfl) rfl (tk_63 hT) ki_180 kcl_180 rfl rfl (by decide) (m_180 (d := d + 1) hT hI498) (kV (fun M858 hI858 fr858 v857p => ?_))
                        have hFm858 := hFm498.call fr858 rfl
                        have tr859 := (fr858 63 9 rfl)
                        have tr860 := (fr858 63 35 rfl)
                        have tr861 := (fr858 63 42 rfl)
                        have tr862 := (fr858 63 43 rfl)
                        have tr863 := (fr858 63 45 rfl)
                        have tr864 := rg_63_9 hI858
                        refine s_aload_n kx_196_254 rfl ?_
                        refine s_callV2 (k := 63) (s1 := 1) (s2 := 0) (as := []) (rest := []) kx_196_255 kp_196_280 (Or.inl rfl) rfl (tk_63 hT) ki_179 kcl_179 rfl rfl (by decide) (m_179 (d := d + 1) hT hI858) (kV (fun M866 hI866 fr866 v865p => ?_))
                        have hFm866 := hFm858.call fr866 rfl
                        have tr867 := (fr866 63 3 rfl)
                        have tr868 := (fr866 63 4 rfl)
                        have tr869 := (fr866 63 5 rfl)
                        have tr870 := (fr866 63 35 rfl)
                        have tr871 := (fr866 63 42 rfl)
                        have tr872 := (fr866 63 43 rfl)
                        have tr873 := (fr866 63 45 rfl)
                        have tr874 := rg_63_9 hI866
                        refine s_aload_n kx_196_258 rfl ?_
                        refine s_bipush (v := 40) kx_196_259 (by decide) ?_
                        refine s_callV2 (k := 63) (s1 := 2) (s2 := 0) (as := [(0, 40)]) (rest := []) kx_196_261 kp_196_283 (Or.inl rfl) rfl (tk_63 hT) ki_181 kcl_181 rfl rfl (by decide) (m_181 (d := d + 2) (c := 40) hT hI866) (kF (fun v875 v875p => ?_))
                        refine s_if_ne (t := 276) kx_196_264 (by decide) (fun hc876 => ?_) (fun hc876 => ?_)
                        · replace v875p := v875p.resolve_right (by omega)
                          refine s_aload_n kx_196_276 rfl ?_
                          refine s_iload_n kx_196_277 rfl ?_
                          refine s_bipush (v := 23) kx_196_278 (by decide) ?_
                          refine s_icmp_ne (t := 288) kx_196_280 (by decide) (fun hc877 => ?_) (fun hc877 => ?_)
                          · refine s_iconst (v := 3) kx_196_288 (by decide) ?_
                            refine s_callV2 (k := 63) (s1 := 2) (s2 := 0) (as := [(0, 3)]) (rest := []) kx_196_289 kp_196_367 (Or.inl rfl) rfl (tk_63 hT) ki_194 kcl_194 rfl rfl (by decide) (m_194 (d := d) (kind := 3) hT hI866 (LXp.fr (show LXp M858 from v857p.2) fr866 rfl) (PI.fr (PI.fr hP508 fr858 rfl) fr866 rfl) (B0.fr (B0.fr hB507 fr858 rfl (fun _ => rfl)) fr866 rfl (fun _ => rfl)) (by omega)) (kV (fun M879 hI879 fr879 v878p => ?_))
                            have hFm879 := hFm866.call fr879 rfl
                            have tr880 := (fr879 63 35 rfl)
                            have tr881 := (fr879 63 45 rfl)
                            have tr882 := rg_63_9 hI879
                            refine s_aload_n kx_196_292 rfl ?_
                            refine r_getI (k := 63) (f := 9) kx_196_293 kp_196_39 (tk_63 hT) kf_12_9 (fun _ => rfl) (rg_63_9 hI879) (fun v883 v883e v883a v883b => ?_)
                            refine s_if_ne (t := 311) kx_196_296 (by decide) (fun hc884 => ?_) (fun hc884 => ?_)
                            · refine s_iconst (v := 0) kx_196_311 (by decide) ?_
                              have hk885 : M879 63 9 = v883 := v883e
                              exact s_iret kx_196_312 (Or.inr ⟨kq_196, by omega⟩) ⟨_, _, rfl, rfl, hI879, hFm879, ⟨by omega, by omega, v878p.1, (by omega), (by omega), ⟨(Or.inl (by omega)), (KP.fr (KP.fr (KP.fr (KP.up (KP.fr (KP.refl (M := M)) fr2 (fun _ => rfl)) u498 (by decide)) fr858 (fun _ => rfl)) fr866 (fun _ => rfl)) fr879 (fun _ => rfl))⟩⟩⟩
                            · refine s_aload_n kx_196_299 rfl ?_
                              refine r_getR (k := 63) (f := 40) (k2 := 88) kx_196_300 kp_196_134 (tk_63 hT) kf_12_40 (by decide) (rq_63_40 hI879) ?_
                              refine s_aload_n kx_196_303 rfl ?_
                              refine r_getI (k := 63) (f := 42) kx_196_304 kp_196_140 (tk_63 hT) kf_12_42 (fun _ => rfl) (rg_63_42 hI879) (fun v886 v886e v886a v886b => ?_)
                              refine s_iconst (v := 1) kx_196_307 (by decide) ?_
                              refine r_sub kx_196_308 ⟨by omega, by omega⟩ ?_
                              refine s_iload_n kx_196_309 rfl ?_
                              refine r_ast (k := 88) kx_196_310 (tk_88 hT) ⟨by omega, by omega⟩ hI879 (ru_88 (by omega) (by omega)) (fun M887 hI887 u887 => ?_)
                              have hFm887 := hFm879.up u887 rfl
                              have tr888 := (u887.2 63 3 (by omega))
                              have tr889 := (u887.2 63 4 (by omega))
                              have tr890 := (u887.2 63 5 (by omega))
                              have tr891 := (u887.2 63 9 (by omega))
                              have tr892 := (u887.2 63 35 (by omega))
                              have tr893 := (u887.2 63 42 (by omega))
                              have tr894 := (u887.2 63 43 (by omega))
                              have tr895 := (u887.2 63 45 (by omega))
                              have hpp := (v878p.2.2.2.resolve_left (by omega)).2.2.2 _ _ (by rw [v886e]; exact u887) (by omega)
                              refine s_iconst (v := 0) kx_196_311 (by decide) ?_
                              have hk896 : M887 63 9 = v883 := ((u887.2 63 9 (by omega)).trans v883e)
                              exact s_iret kx_196_312 (Or.inr ⟨kq_196, by omega⟩) ⟨_, _, rfl, rfl, hI887, hFm887, ⟨by omega, by omega, (LXp.up v878p.1 u887 (Or.inl (by decide))), (by omega), (by omega), ⟨(Or.inr ⟨by omega, Or.inr ⟨rfl, PI.to7 hpp (by omega)⟩⟩), (KP.up (KP.fr (KP.fr (KP.fr (KP.up (KP.fr (KP.refl (M := M)) fr2 (fun _ => rfl)) u498 (by decide)) fr858 (fun _ => rfl)) fr866 (fun _ => rfl)) fr879 (fun _ => rfl)) u887 (by decide))⟩⟩⟩
                          · refine s_bipush (v := 6) kx_196_283 (by decide) ?_
                            refine s_goto (t := 289) kx_196_285 (by decide) ?_
                            refine s_callV2 (k := 63) (s1 := 2) (s2 := 0) (as := [(0, 6)]) (rest := []) kx_196_289 kp_196_367 (Or.inl rfl) rfl (tk_63 hT) ki_194 kcl_194 rfl rfl (by decide) (m_194 (d := d) (kind := 6) hT hI866 (LXp.fr (show LXp M858 from v857p.2) fr866 rfl) (PI.fr (PI.fr hP508 fr858 rfl) fr866 rfl) (B0.fr (B0.fr hB507 fr858 rfl (fun _ => rfl)) fr866 rfl (fun _ => rfl)) (by omega)) (kV (fun M898 hI898 fr898 v897p => ?_))
                            have hFm898 := hFm866.call fr898 rfl
                            have tr899 := (fr898 63 35 rfl)
                            have tr900 := (fr898 63 45 rfl)
                            have tr901 := rg_63_9 hI898
                            refine s_aload_n kx_196_292 rfl ?_
                            refine r_getI (k := 63) (f := 9) kx_196_293 kp_196_39 (tk_63 hT) kf_12_9 (fun _ => rfl) (rg_63_9 hI898) (fun v902 v902e v902a v902b => ?_)
                            refine s_if_ne (t := 311) kx_196_296 (by decide) (fun hc903 => ?_) (fun hc903 => ?_)
                            · refine s_iconst (v := 0) kx_196_311 (by decide) ?_
                              have hk904 : M898 63 9 = v902 := v902e
                              exact s_iret kx_196_312 (Or.inr ⟨kq_196, by omega⟩) ⟨_, _, rfl, rfl, hI898, hFm898, ⟨by omega, by omega, v897p.1, (by omega), (by omega), ⟨(Or.inl (by omega)), (KP.fr (KP.fr (KP.fr (KP.up (KP.fr (KP.refl (M := M)) fr2 (fun _ => rfl)) u498 (by decide)) fr858 (fun _ => rfl)) fr866 (fun _ => rfl)) fr898 (fun _ => rfl))⟩⟩⟩
                            · refine s_aload_n kx_196_299 rfl ?_
                              refine r_getR (k := 63) (f := 40) (k2 := 88) kx_196_300 kp_196_134 (tk_63 hT) kf_12_40 (by decide) (rq_63_40 hI898) ?_
                              refine s_aload_n kx_196_303 rfl ?_
                              refine r_getI (k := 63) (f := 42) kx_196_304 kp_196_140 (tk_63 hT) kf_12_42 (fun _ => rfl) (rg_63_42 hI898) (fun v905 v905e v905a v905b => ?_)
                              refine s_iconst (v := 1) kx_196_307 (by decide) ?_
                              refine r_sub kx_196_308 ⟨by omega, by omega⟩ ?_
                              refine s_iload_n kx_196_309 rfl ?_
                              refine r_ast (k := 88) kx_196_310 (tk_88 hT) ⟨by omega, by omega⟩ hI898 (ru_88 (by omega) (by omega)) (fun M906 hI906 u906 => ?_)
                              have hFm906 := hFm898.up u906 rfl
                              have tr907 := (u906.2 63 3 (by omega))
                              have tr908 := (u906.2 63 4 (by omega))
                              have tr909 := (u906.2 63 5 (by omega))
                              have tr910 := (u906.2 63 9 (by omega))
                              have tr911 := (u906.2 63 35 (by omega))
                              have tr912 := (u906.2 63 42 (by omega))
                              have tr913 := (u906.2 63 43 (by omega))
                              have tr914 := (u906.2 63 45 (by omega))
                              have hpp := (v897p.2.2.2.resolve_left (by omega)).2.2.2 _ _ (by rw [v905e]; exact u906) (by omega)
                              refine s_iconst (v := 0) kx_196_311 (by decide) ?_
                              have hk915 : M906 63 9 = v902 := ((u906.2 63 9 (by omega)).trans v902e)
                              exact s_iret kx_196_312 (Or.inr ⟨kq_196, by omega⟩) ⟨_, _, rfl, rfl, hI906, hFm906, ⟨by omega, by omega, (LXp.up v897p.1 u906 (Or.inl (by decide))), (by omega), (by omega), ⟨(Or.inr ⟨by omega, Or.inr ⟨rfl, PI.to7 hpp (by omega)⟩⟩), (KP.up (KP.fr (KP.fr (KP.fr (KP.up (KP.fr (KP.refl (M := M)) fr2 (fun _ => rfl)) u498 (by decide)) fr858 (fun _ => rfl)) fr866 (fun _ => rfl)) fr898 (fun _ => rfl)) u906 (by decide))⟩⟩⟩
                        · replace v875p := v875p.resolve_left (by omega)
                          refine s_aload_n kx_196_267 rfl ?_
                          refine s_iconst (v := 1) kx_196_268 (by decide) ?_
                          refine s_aload_n kx_196_269 rfl ?_
                          refine r_getI (k := 63) (f := 4) kx_196_270 kp_196_23 (tk_63 hT) kf_12_4 (fun _ => rfl) (rg_63_4 hI866) (fun v916 v916e v916a v916b => ?_)
                          refine s_callV2 (k := 63) (s1 := 3) (s2 := 0) (as := [(0, v916), (0, 1)]) (rest := []) kx_196_273 kp_196_263 (Or.inl rfl) rfl (tk_63 hT) ki_176 kcl_176 rfl rfl (by decide) (m_176 (d := d + 2) (kind := 1) (place := v916) hT hI866 (by omega)) (kV (fun M918 hI918 fr918 v917p => ?_))
                          have hFm918 := hFm866.call fr918 rfl
                          have tr919 := (fr918 63 3 rfl)
                          have tr920 := (fr918 63 4 rfl)
                          have tr921 := (fr918 63 5 rfl)
                          have tr922 := (fr918 63 35 rfl)
                          have tr923 := (fr918 63 42 rfl)
                          have tr924 := (fr918 63 43 rfl)
                          have tr925 := (fr918 63 45 rfl)
                          have tr926 := rg_63_9 hI918
                          refine s_aload_n kx_196_276 rfl ?_
                          refine s_iload_n kx_196_277 rfl ?_
                          refine s_bipush (v := 23) kx_196_278 (by decide) ?_
                          refine s_icmp_ne (t := 288) kx_196_280 (by decide) (fun hc927 => ?_) (fun hc927 => ?_)
                          · refine s_iconst (v := 3) kx_196_288 (by decide) ?_
                            refine s_callV2 (k := 63) (s1 := 2) (s2 := 0) (as := [(0, 3)]) (rest := []) kx_196_289 kp_196_367 (Or.inl rfl) rfl (tk_63 hT) ki_194 kcl_194 rfl rfl (by decide) (m_194 (d := d) (kind := 3) hT hI918 (LXp.fr (LXp.fr (show LXp M858 from v857p.2) fr866 rfl) fr918 rfl) (PI.fr (PI.fr (PI.fr hP508 fr858 rfl) fr866 rfl) fr918 rfl) (B0.fr (B0.fr (B0.fr hB507 fr858 rfl (fun _ => rfl)) fr866 rfl (fun _ => rfl)) fr918 rfl (fun _ => rfl)) (by omega)) (kV (fun M929 hI929 fr929 v928p => ?_))
                            have hFm929 := hFm918.call fr929 rfl
                            have tr930 := (fr929 63 35 rfl)
                            have tr931 := (fr929 63 45 rfl)
                            have tr932 := rg_63_9 hI929
                            refine s_aload_n kx_196_292 rfl ?_
                            refine r_getI (k := 63) (f := 9) kx_196_293 kp_196_39 (tk_63 hT) kf_12_9 (fun _ => rfl) (rg_63_9 hI929) (fun v933 v933e v933a v933b => ?_)
                            refine s_if_ne (t := 311) kx_196_296 (by decide) (fun hc934 => ?_) (fun hc934 => ?_)
                            · refine s_iconst (v := 0) kx_196_311 (by decide) ?_
                              have hk935 : M929 63 9 = v933 := v933e
                              exact s_iret kx_196_312 (Or.inr ⟨kq_196, by omega⟩) ⟨_, _, rfl, rfl, hI929, hFm929, ⟨by omega, by omega, v928p.1, (by omega), (by omega), ⟨(Or.inl (by omega)), (KP.fr (KP.fr (KP.fr (KP.fr (KP.up (KP.fr (KP.refl (M := M)) fr2 (fun _ => rfl)) u498 (by decide)) fr858 (fun _ => rfl)) fr866 (fun _ => rfl)) fr918 (fun _ => rfl)) fr929 (fun _ => rfl))⟩⟩⟩
                            · refine s_aload_n kx_196_299 rfl ?_
                              refine r_getR (k := 63) (f := 40) (k2 := 88) kx_196_300 kp_196_134 (tk_63 hT) kf_12_40 (by decide) (rq_63_40 hI929) ?_
                              refine s_aload_n kx_196_303 rfl ?_
                              refine r_getI (k := 63) (f := 42) kx_196_304 kp_196_140 (tk_63 hT) kf_12_42 (fun _ => rfl) (rg_63_42 hI929) (fun v936 v936e v936a v936b => ?_)
                              refine s_iconst (v := 1) kx_196_307 (by decide) ?_
                              refine r_sub kx_196_308 ⟨by omega, by omega⟩ ?_
                              refine s_iload_n kx_196_309 rfl ?_
                              refine r_ast (k := 88) kx_196_310 (tk_88 hT) ⟨by omega, by omega⟩ hI929 (ru_88 (by omega) (by omega)) (fun M937 hI937 u937 => ?_)
                              have hFm937 := hFm929.up u937 rfl
                              have tr938 := (u937.2 63 3 (by omega))
                              have tr939 := (u937.2 63 4 (by omega))
                              have tr940 := (u937.2 63 5 (by omega))
                              have tr941 := (u937.2 63 9 (by omega))
                              have tr942 := (u937.2 63 35 (by omega))
                              have tr943 := (u937.2 63 42 (by omega))
                              have tr944 := (u937.2 63 43 (by omega))
                              have tr945 := (u937.2 63 45 (by omega))
                              have hpp := (v928p.2.2.2.resolve_left (by omega)).2.2.2 _ _ (by rw [v936e]; exact u937) (by omega)
                              refine s_iconst (v := 0) kx_196_311 (by decide) ?_
                              have hk946 : M937 63 9 = v933 := ((u937.2 63 9 (by omega)).trans v933e)
                              exact s_iret kx_196_312 (Or.inr ⟨kq_196, by omega⟩) ⟨_, _, rfl, rfl, hI937, hFm937, ⟨by omega, by omega, (LXp.up v928p.1 u937 (Or.inl (by decide))), (by omega), (by omega), ⟨(Or.inr ⟨by omega, Or.inr ⟨rfl, PI.to7 hpp (by omega)⟩⟩), (KP.up (KP.fr (KP.fr (KP.fr (KP.fr (KP.up (KP.fr (KP.refl (M := M)) fr2 (fun _ => rfl)) u498 (by decide)) fr858 (fun _ => rfl)) fr866 (fun _ => rfl)) fr918 (fun _ => rfl)) fr929 (fun _ => rfl)) u937 (by decide))⟩⟩⟩
                          · refine s_bipush (v := 6) kx_196_283 (by decide) ?_
                            refine s_goto (t := 289) kx_196_285 (by decide) ?_
                            refine s_callV2 (k := 63) (s1 := 2) (s2 := 0) (as := [(0, 6)]) (rest := []) kx_196_289 kp_196_367 (Or.inl rfl) rfl (tk_63 hT) ki_194 kcl_194 rfl rfl (by decide) (m_194 (d := d) (kind := 6) hT hI918 (LXp.fr (LXp.fr (show LXp M858 from v857p.2) fr866 rfl) fr918 rfl) (PI.fr (PI.fr (PI.fr hP508 fr858 rfl) fr866 rfl) fr918 rfl) (B0.fr (B0.fr (B0.fr hB507 fr858 rfl (fun _ => rfl)) fr866 rfl (fun _ => rfl)) fr918 rfl (fun _ => rfl)) (by omega)) (kV (fun M948 hI948 fr948 v947p => ?_))
                            have hFm948 := hFm918.call fr948 rfl
                            have tr949 := (fr948 63 35 rfl)
                            have tr950 := (fr948 63 45 rfl)
                            have tr951 := rg_63_9 hI948
                            refine s_aload_n kx_196_292 rfl ?_
                            refine r_getI (k := 63) (f := 9) kx_196_293 kp_196_39 (tk_63 hT) kf_12_9 (fun _ => rfl) (rg_63_9 hI948) (fun v952 v952e v952a v952b => ?_)
                            refine s_if_ne (t := 311) kx_196_296 (by decide) (fun hc953 => ?_) (fun hc953 => ?_)
                            · refine s_iconst (v := 0) kx_196_311 (by decide) ?_
                              have hk954 : M948 63 9 = v952 := v952e
                              exact s_iret kx_196_312 (Or.inr ⟨kq_196, by omega⟩) ⟨_, _, rfl, rfl, hI948, hFm948, ⟨by omega, by omega, v947p.1, (by omega), (by omega), ⟨(Or.inl (by omega)), (KP.fr (KP.fr (KP.fr (KP.fr (KP.up (KP.fr (KP.refl (M := M)) fr2 (fun _ => rfl)) u498 (by decide)) fr858 (fun _ => rfl)) fr866 (fun _ => rfl)) fr918 (fun _ => rfl)) fr948 (fun _ => rfl))⟩⟩⟩
                            · refine s_aload_n kx_196_299 rfl ?_
                              refine r_getR (k := 63) (f := 40) (k2 := 88) kx_196_300 kp_196_134 (tk_63 hT) kf_12_40 (by decide) (rq_63_40 hI948) ?_
                              refine s_aload_n kx_196_303 rfl ?_
                              refine r_getI (k := 63) (f := 42) kx_196_304 kp_196_140 (tk_63 hT) kf_12_42 (fun _ => rfl) (rg_63_42 hI948) (fun v955 v955e v955a v955b => ?_)
                              refine s_iconst (v := 1) kx_196_307 (by decide) ?_
                              refine r_sub kx_196_308 ⟨by omega, by omega⟩ ?_
                              refine s_iload_n kx_196_309 rfl ?_
                              refine r_ast (k := 88) kx_196_310 (tk_88 hT) ⟨by omega, by omega⟩ hI948 (ru_88 (by omega) (by omega)) (fun M956 hI956 u956 => ?_)
                              have hFm956 := hFm948.up u956 rfl
                              have tr957 := (u956.2 63 3 (by omega))
                              have tr958 := (u956.2 63 4 (by omega))
                              have tr959 := (u956.2 63 5 (by omega))
                              have tr960 := (u956.2 63 9 (by omega))
                              have tr961 := (u956.2 63 35 (by omega))
                              have tr962 := (u956.2 63 42 (by omega))
                              have tr963 := (u956.2 63 43 (by omega))
                              have tr964 := (u956.2 63 45 (by omega))
                              have hpp := (v947p.2.2.2.resolve_left (by omega)).2.2.2 _ _ (by rw [v955e]; exact u956) (by omega)
                              refine s_iconst (v := 0) kx_196_311 (by decide) ?_
                              have hk965 : M956 63 9 = v952 := ((u956.2 63 9 (by omega)).trans v952e)
                              exact s_iret kx_196_312 (Or.inr ⟨kq_196, by omega⟩) ⟨_, _, rfl, rfl, hI956, hFm956, ⟨by omega, by omega, (LXp.up v947p.1 u956 (Or.inl (by decide))), (by omega), (by omega), ⟨(Or.inr ⟨by omega, Or.inr ⟨rfl, PI.to7 hpp (by omega)⟩⟩), (KP.up (KP.fr (KP.fr (KP.fr (KP.fr (KP.up (KP.fr (KP.refl (M := M)) fr2 (fun _ => rfl)) u498 (by decide)) fr858 (fun _ => rfl)) fr866 (fun _ => rfl)) fr918 (fun _ => rfl)) fr948 (fun _ => rfl)) u956 (by decide))⟩⟩⟩
                      refine s_if_eq (t := 232) kx_196_224 (by decide) (fun hc847 => ?_) (fun hc847 => ?_)
                      · have hJ848 : Fr fS_196_j224 M498 M498 := Fr.refl
                        replace v846p := v846p.resolve_left (by omega)
                        refine s_aload_n kx_196_232 rfl ?_
                        refine s_ldc2_w kx_196_233 kp_196_335 ?_
                        refine s_callV2 (k := 63) (s1 := 3) (s2 := 0) (as := [(1, 7168376)]) (rest := []) kx_196_236 kp_196_361 (Or.inl rfl) rfl (tk_63 hT) ki_182 kcl_182 rfl rfl (by decide) (m_182 (d := d + 2) (w := 7168376) hT hI498) (kF (fun v849 v849p => ?_))
                        refine s_if_eq (t := 247) kx_196_239 (by decide) (fun hc850 => ?_) (fun hc850 => ?_)
                        · replace v849p := v849p.resolve_left (by omega)
                          refine s_bipush (v := 23) kx_196_247 (by decide) ?_
                          exact cP.wk (lS1 rfl lS0) (jn853 23 (by omega) (by omega) (by omega))
                        · replace v849p := v849p.resolve_right (by omega)
                          refine s_bipush (v := 16) kx_196_242 (by decide) ?_
                          refine s_goto (t := 249) kx_196_244 (by decide) ?_
                          exact cP.wk (lS1 rfl lS0) (jn853 16 (by omega) (by omega) (by omega))
                      · have hJ851 : Fr fS_196_j224 M498 M498 := Fr.refl
                        replace v846p := v846p.resolve_right (by omega)
                        refine s_bipush (v := 15) kx_196_227 (by decide) ?_
                        refine s_goto (t := 249) kx_196_229 (by decide) ?_
                        exact cP.wk (lS1 rfl lS0) (jn853 15 (by omega) (by omega) (by omega))
              · replace v515p := v515p.resolve_right (by omega)
                refine s_aload_n kx_196_180 rfl ?_
                refine s_iconst (v := 2) kx_196_181 (by decide) ?_
                refine s_callV2 (k := 63) (s1 := 2) (s2 := 0) (as := [(0, 2)]) (rest := []) kx_196_182 kp_196_367 (Or.inl rfl) rfl (tk_63 hT) ki_194 kcl_194 rfl rfl (by decide) (m_194 (d := d) (kind := 2) hT hI498 (LXp.up (LXp.fr hX fr2 rfl) u498 (Or.inl (by decide))) hP508 hB507 (by omega)) (kV (fun M967 hI967 fr967 v966p => ?_))
                have hFm967 := hFm498.call fr967 rfl
                have tr968 := (fr967 63 35 rfl)
                have tr969 := (fr967 63 45 rfl)
                have tr970 := rg_63_9 hI967
                refine s_iconst (v := 0) kx_196_185 (by decide) ?_
                exact s_iret kx_196_186 (Or.inr ⟨kq_196, by omega⟩) ⟨_, _, rfl, rfl, hI967, hFm967, ⟨by omega, by omega, v966p.1, (by omega), (by omega), ⟨(v966p.2.2.2.imp id (fun z => ⟨by omega, Or.inr ⟨rfl, PI.to7 (PQ.id z.2.2.2 (by decide)) (by omega)⟩⟩)), (KP.fr (KP.up (KP.fr (KP.refl (M := M)) fr2 (fun _ => rfl)) u498 (by decide)) fr967 (fun _ => rfl))⟩⟩⟩
            · replace v513p := v513p.resolve_right (by omega)
              refine s_aload_n kx_196_151 rfl ?_
              refine s_bipush (v := 9) kx_196_152 (by decide) ?_
              refine s_iconst (v := 0) kx_196_154 (by decide) ?_
              refine s_callV2 (k := 63) (s1 := 3) (s2 := 0) (as := [(0, 0), (0, 9)]) (rest := []) kx_196_155 kp_196_352 (Or.inl rfl) rfl (tk_63 hT) ki_189 kcl_189 rfl rfl (by decide) (m_189 (d := d + 2) (sort := 9) (v_ := 0) hT hI498 (by omega) (by omega)) (kV (fun M972 hI972 fr972 v971p => ?_))
              have hFm972 := hFm498.call fr972 rfl
              have tr973 := (fr972 63 3 rfl)
              have tr974 := (fr972 63 4 rfl)
              have tr975 := (fr972 63 5 rfl)
              have tr976 := (fr972 63 9 rfl)
              have tr977 := (fr972 63 42 rfl)
              have tr978 := (fr972 63 43 rfl)
              have tr979 := (fr972 63 45 rfl)
              have tr980 := rg_63_9 hI972
              have hP981 := PI.codeV hP508 (by omega) (by omega) (by decide) (by decide) fr972 v971p.1 v971p.2.1 v971p.2.2
              have hK982 := KP.add (KP.up (KP.fr (KP.refl (M := M)) fr2 (fun _ => rfl)) u498 (by decide)) ((u498.2 63 36 (by omega)).trans (fr2 63 36 rfl)) ⟨(rg_63_35 hI498).1, by omega⟩ (rg_63_36 hI498).1 v971p.2.2
              refine s_aload_n kx_196_158 rfl ?_
              refine r_getR (k := 63) (f := 38) (k2 := 86) kx_196_159 kp_196_127 (tk_63 hT) kf_12_38 (by decide) (rq_63_38 hI972) ?_
              refine s_iload_n kx_196_162 rfl ?_
              refine s_iconst (v := 2) kx_196_163 (by decide) ?_
              refine r_ast (k := 86) kx_196_164 (tk_86 hT) ⟨by omega, by omega⟩ hI972 (ru_86 (by omega) (by omega)) (fun M983 hI983 u983 => ?_)
              have hFm983 := hFm972.up u983 rfl
              have tr984 := (u983.2 63 3 (by omega))
              have tr985 := (u983.2 63 4 (by omega))
              have tr986 := (u983.2 63 5 (by omega))
              have tr987 := (u983.2 63 9 (by omega))
              have tr988 := (u983.2 63 35 (by omega))
              have tr989 := (u983.2 63 42 (by omega))
              have tr990 := (u983.2 63 43 (by omega))
              have tr991 := (u983.2 63 45 (by omega))
              refine s_aload_n kx_196_165 rfl ?_
              refine s_callV2 (k := 63) (s1 := 1) (s2 := 0) (as := []) (rest := []) kx_196_166 kp_196_286 (Or.inl rfl) rfl (tk_63 hT) ki_180 kcl_180 rfl rfl (by decide) (m_180 (d := d + 1) hT hI983) (kV (fun M993 hI993 fr993 v992p => ?_))
              have hFm993 := hFm983.call fr993 rfl
              have tr994 := (fr993 63 9 rfl)
              have tr995 := (fr993 63 35 rfl)
              have tr996 := (fr993 63 42 rfl)
              have tr997 := (fr993 63 43 rfl)
              have tr998 := (fr993 63 45 rfl)
              have tr999 := rg_63_9 hI993
              refine s_iconst (v := 1) kx_196_169 (by decide) ?_
              have hk1000 : M993 63 9 = v11 := ((fr993 63 9 rfl).trans ((u983.2 63 9 (by omega)).trans ((fr972 63 9 rfl).trans ((u498.2 63 9 (by omega)).trans v11e))))
              exact s_iret kx_196_170 (Or.inr ⟨kq_196, by omega⟩) ⟨_, _, rfl, rfl, hI993, hFm993, ⟨by omega, by omega, (show LXp M993 from v992p.2), (by omega), (by omega), ⟨(Or.inr ⟨by omega, Or.inl ⟨rfl, (B0.fr (B0.up (B0.fr hB507 fr972 rfl (fun _ => rfl)) u983 ⟨by decide, Or.inl (by decide)⟩) fr993 rfl (fun _ => rfl)), PI.to7 (PI.fr (PI.phase hP981 (Or.inl (by decide)) (by omega) u983) fr993 rfl) (by omega)⟩⟩), (KP.fr (KP.up hK982 u983 (by decide)) fr993 (fun _ => rfl))⟩⟩⟩
          · replace v510p := v510p.resolve_right (by omega)
            refine s_aload_n kx_196_130 rfl ?_
            refine s_iconst (v := 5) kx_196_131 (by decide) ?_
            refine s_callV2 (k := 63) (s1 := 2) (s2 := 0) (as := [(0, 5)]) (rest := []) kx_196_132 kp_196_367 (Or.inl rfl) rfl (tk_63 hT) ki_194 kcl_194 rfl rfl (by decide) (m_194 (d := d) (kind := 5) hT hI498 (LXp.up (LXp.fr hX fr2 rfl) u498 (Or.inl (by decide))) hP508 hB507 (by omega)) (kV (fun M1002 hI1002 fr1002 v1001p => ?_))
            have hFm1002 := hFm498.call fr1002 rfl
            have tr1003 := (fr1002 63 35 rfl)
            have tr1004 := (fr1002 63 45 rfl)
            have tr1005 := rg_63_9 hI1002
            refine s_iconst (v := 0) kx_196_135 (by decide) ?_
            exact s_iret kx_196_136 (Or.inr ⟨kq_196, by omega⟩) ⟨_, _, rfl, rfl, hI1002, hFm1002, ⟨by omega, by omega, v1001p.1, (by omega), (by omega), ⟨(v1001p.2.2.2.imp id (fun z => ⟨by omega, Or.inr ⟨rfl, PI.to7 (PQ.id z.2.2.2 (by decide)) (by omega)⟩⟩)), (KP.fr (KP.up (KP.fr (KP.refl (M := M)) fr2 (fun _ => rfl)) u498 (by decide)) fr1002 (fun _ => rfl))⟩⟩⟩
        · replace v496p := v496p.resolve_right (by omega)
          have hb11006 : M2 87 ((v13 - 1)).toNat = 1 := by omega
          refine s_aload_n kx_196_61 rfl ?_
          refine r_getI (k := 63) (f := 43) kx_196_62 kp_196_143 (tk_63 hT) kf_12_43 (fun _ => rfl) (rg_63_43 hI2) (fun v1007 v1007e v1007a v1007b => ?_)
          have v1007z : M 63 43 = v1007 := ((fr2 63 43 rfl)).symm.trans v1007e
          refine s_bipush (v := 7) kx_196_65 (by decide) ?_
          refine s_icmp_ne (t := 79) kx_196_67 (by decide) (fun hc1008 => ?_) (fun hc1008 => ?_)
          · refine s_aload_n kx_196_79 rfl ?_
            refine r_getK (k := 63) (f := 9) kx_196_80 kp_196_39 (tk_63 hT) kf_12_9 (fun _ => rfl) v11e ?_
            refine s_if_le (t := 88) kx_196_83 (by decide) (fun hc1009 => ?_) (fun hc1009 => absurd hc1009 (by omega))
            refine s_aload_n kx_196_88 rfl ?_
            refine s_dup kx_196_89 rfl ?_
            refine r_getK (k := 63) (f := 43) kx_196_90 kp_196_143 (tk_63 hT) kf_12_43 (fun _ => rfl) v1007e ?_
            refine s_iconst (v := 1) kx_196_93 (by decide) ?_
            refine r_add kx_196_94 ⟨by omega, by omega⟩ ?_
            refine r_put (k := 63) (f := 43) kx_196_95 kp_196_143 (tk_63 hT) kf_12_43 rfl (by decide) (by decide) hI2 (ru_63_43 (by omega) (by omega)) (fun M1010 hI1010 u1010 => ?_)
            have hFm1010 := hFm2.up u1010 rfl
            have tr1011 := (u1010.2 63 3 (by omega))
            have tr1012 := (u1010.2 63 4 (by omega))
            have tr1013 := (u1010.2 63 5 (by omega))
            have tr1014 := (u1010.2 63 9 (by omega))
            have tr1015 := (u1010.2 63 35 (by omega))
            have tr1016 := (u1010.2 63 42 (by omega))
            have tr1017 := u1010.1
            have tr1018 := (u1010.2 63 45 (by omega))
            have hP1019 := (PI.opn (e' := 1) (PI.fr hP fr2 rfl) u1010 (by omega))
            refine s_aload_n kx_196_98 rfl ?_
            refine s_bipush (v := 22) kx_196_99 (by decide) ?_
            refine s_callV2 (k := 63) (s1 := 2) (s2 := 0) (as := [(0, 22)]) (rest := []) kx_196_101 kp_196_364 (Or.inl rfl) rfl (tk_63 hT) ki_192 kcl_192 rfl rfl (by decide) (m_192 (d := d + 2) (op := 22) hT hI1010 (by omega) (by omega)) (kV (fun M1021 hI1021 fr1021 v1020p => ?_))
            have hFm1021 := hFm1010.call fr1021 rfl
            have tr1022 := (fr1021 63 3 rfl)
            have tr1023 := (fr1021 63 4 rfl)
            have tr1024 := (fr1021 63 5 rfl)
            have tr1025 := (fr1021 63 9 rfl)
            have tr1026 := (fr1021 63 35 rfl)
            have tr1027 := (fr1021 63 42 rfl)
            have tr1028 := (fr1021 63 43 rfl)
            have tr1029 := rg_63_9 hI1021
            have hP1030 := PI.holdN hP1019 (f := (v13 - 1)) (by omega) ((u1010.2 87 _ (by omega)).trans hb11006) fr1021 v1020p.1 v1020p.2.1 v1020p.2.2
            refine s_aload_n kx_196_104 rfl ?_
            refine s_callV2 (k := 63) (s1 := 1) (s2 := 0) (as := []) (rest := []) kx_196_105 kp_196_286 (Or.inl rfl) rfl (tk_63 hT) ki_180 kcl_180 rfl rfl (by decide) (m_180 (d := d + 1) hT hI1021) (kV (fun M1032 hI1032 fr1032 v1031p => ?_))
            have hFm1032 := hFm1021.call fr1032 rfl
            have tr1033 := (fr1032 63 9 rfl)
            have tr1034 := (fr1032 63 35 rfl)
            have tr1035 := (fr1032 63 42 rfl)
            have tr1036 := (fr1032 63 43 rfl)
            have tr1037 := (fr1032 63 45 rfl)
            have tr1038 := rg_63_9 hI1032
            refine s_iconst (v := 0) kx_196_108 (by decide) ?_
            have hk1039 : M1032 63 9 = v11 := ((fr1032 63 9 rfl).trans ((fr1021 63 9 rfl).trans ((u1010.2 63 9 (by omega)).trans v11e)))
            exact s_iret kx_196_109 (Or.inr ⟨kq_196, by omega⟩) ⟨_, _, rfl, rfl, hI1032, hFm1032, ⟨by omega, by omega, (show LXp M1032 from v1031p.2), (by omega), (by omega), ⟨(Or.inr ⟨by omega, Or.inr ⟨rfl, PI.to7 (PI.fr hP1030 fr1032 rfl) (by omega)⟩⟩), (KP.fr (KP.fr (KP.up (KP.fr (KP.refl (M := M)) fr2 (fun _ => rfl)) u1010 (by decide)) fr1021 (fun _ => rfl)) fr1032 (fun _ => rfl))⟩⟩⟩
          · refine s_aload_n kx_196_70 rfl ?_
            refine s_iconst (v := 5) kx_196_71 (by decide) ?_
            refine s_aload_n kx_196_72 rfl ?_
            refine r_getI (k := 63) (f := 4) kx_196_73 kp_196_23 (tk_63 hT) kf_12_4 (fun _ => rfl) (rg_63_4 hI2) (fun v1040 v1040e v1040a v1040b => ?_)
            have v1040z : M 63 4 = v1040 := ((fr2 63 4 rfl)).symm.trans v1040e
            refine s_callV2 (k := 63) (s1 := 3) (s2 := 0) (as := [(0, v1040), (0, 5)]) (rest := []) kx_196_76 kp_196_263 (Or.inl rfl) rfl (tk_63 hT) ki_176 kcl_176 rfl rfl (by decide) (m_176 (d := d + 2) (kind := 5) (place := v1040) hT hI2 (by omega)) (kV (fun M1042 hI1042 fr1042 v1041p => ?_))
            have hFm1042 := hFm2.call fr1042 rfl
            have tr1043 := (fr1042 63 3 rfl)
            have tr1044 := (fr1042 63 4 rfl)
            have tr1045 := (fr1042 63 5 rfl)
            have tr1046 := (fr1042 63 35 rfl)
            have tr1047 := (fr1042 63 42 rfl)
            have tr1048 := (fr1042 63 43 rfl)
            have tr1049 := (fr1042 63 45 rfl)
            have tr1050 := rg_63_9 hI1042
            refine s_aload_n kx_196_79 rfl ?_
            refine r_getI (k := 63) (f := 9) kx_196_80 kp_196_39 (tk_63 hT) kf_12_9 (fun _ => rfl) (rg_63_9 hI1042) (fun v1051 v1051e v1051a v1051b => ?_)
            refine s_if_le (t := 88) kx_196_83 (by decide) (fun hc1052 => ?_) (fun hc1052 => ?_)
            · refine s_aload_n kx_196_88 rfl ?_
              refine s_dup kx_196_89 rfl ?_
              refine r_getK (k := 63) (f := 43) kx_196_90 kp_196_143 (tk_63 hT) kf_12_43 (fun _ => rfl) ((fr1042 63 43 rfl).trans v1007e) ?_
              refine s_iconst (v := 1) kx_196_93 (by decide) ?_
              refine r_add kx_196_94 ⟨by omega, by omega⟩ ?_
              refine r_put (k := 63) (f := 43) kx_196_95 kp_196_143 (tk_63 hT) kf_12_43 rfl (by decide) (by decide) hI1042 (ru_63_43 (by omega) (by omega)) (fun M1053 hI1053 u1053 => ?_)
              have hFm1053 := hFm1042.up u1053 rfl
              have tr1054 := (u1053.2 63 3 (by omega))
              have tr1055 := (u1053.2 63 4 (by omega))
              have tr1056 := (u1053.2 63 5 (by omega))
              have tr1057 := (u1053.2 63 9 (by omega))
              have tr1058 := (u1053.2 63 35 (by omega))
              have tr1059 := (u1053.2 63 42 (by omega))
              have tr1060 := u1053.1
              have tr1061 := (u1053.2 63 45 (by omega))
              have hP1062 := (PI.opn (e' := 1) (PI.fr (PI.fr hP fr2 rfl) fr1042 rfl) u1053 (by omega))
              refine s_aload_n kx_196_98 rfl ?_
              refine s_bipush (v := 22) kx_196_99 (by decide) ?_
              refine s_callV2 (k := 63) (s1 := 2) (s2 := 0) (as := [(0, 22)]) (rest := []) kx_196_101 kp_196_364 (Or.inl rfl) rfl (tk_63 hT) ki_192 kcl_192 rfl rfl (by decide) (m_192 (d := d + 2) (op := 22) hT hI1053 (by omega) (by omega)) (kV (fun M1064 hI1064 fr1064 v1063p => ?_))
              have hFm1064 := hFm1053.call fr1064 rfl
              have tr1065 := (fr1064 63 3 rfl)
              have tr1066 := (fr1064 63 4 rfl)
              have tr1067 := (fr1064 63 5 rfl)
              have tr1068 := (fr1064 63 9 rfl)
              have tr1069 := (fr1064 63 35 rfl)
              have tr1070 := (fr1064 63 42 rfl)
              have tr1071 := (fr1064 63 43 rfl)
              have tr1072 := rg_63_9 hI1064
              have hP1073 := PI.holdN hP1062 (f := (v13 - 1)) (by omega) ((u1053.2 87 _ (by omega)).trans ((fr1042 87 _ rfl).trans hb11006)) fr1064 v1063p.1 v1063p.2.1 v1063p.2.2
              refine s_aload_n kx_196_104 rfl ?_
              refine s_callV2 (k := 63) (s1 := 1) (s2 := 0) (as := []) (rest := []) kx_196_105 kp_196_286 (Or.inl rfl) rfl (tk_63 hT) ki_180 kcl_180 rfl rfl (by decide) (m_180 (d := d + 1) hT hI1064) (kV (fun M1075 hI1075 fr1075 v1074p => ?_))
              have hFm1075 := hFm1064.call fr1075 rfl
              have tr1076 := (fr1075 63 9 rfl)
              have tr1077 := (fr1075 63 35 rfl)
              have tr1078 := (fr1075 63 42 rfl)
              have tr1079 := (fr1075 63 43 rfl)
              have tr1080 := (fr1075 63 45 rfl)
              have tr1081 := rg_63_9 hI1075
              refine s_iconst (v := 0) kx_196_108 (by decide) ?_
              have hk1082 : M1075 63 9 = v1051 := ((fr1075 63 9 rfl).trans ((fr1064 63 9 rfl).trans ((u1053.2 63 9 (by omega)).trans v1051e)))
              exact s_iret kx_196_109 (Or.inr ⟨kq_196, by omega⟩) ⟨_, _, rfl, rfl, hI1075, hFm1075, ⟨by omega, by omega, (show LXp M1075 from v1074p.2), (by omega), (by omega), ⟨(Or.inr ⟨by omega, Or.inr ⟨rfl, PI.to7 (PI.fr hP1073 fr1075 rfl) (by omega)⟩⟩), (KP.fr (KP.fr (KP.up (KP.fr (KP.fr (KP.refl (M := M)) fr2 (fun _ => rfl)) fr1042 (fun _ => rfl)) u1053 (by decide)) fr1064 (fun _ => rfl)) fr1075 (fun _ => rfl))⟩⟩⟩
            · refine s_iconst (v := 1) kx_196_86 (by decide) ?_
              have hk1083 : M1042 63 4 = v1040 := ((fr1042 63 4 rfl).trans v1040e)
              have hk1084 : M1042 63 9 = v1051 := v1051e
              exact s_iret kx_196_87 (Or.inr ⟨kq_196, by omega⟩) ⟨_, _, rfl, rfl, hI1042, hFm1042, ⟨by omega, by omega, (LXp.fr (LXp.fr hX fr2 rfl) fr1042 rfl), (by omega), (by omega), ⟨(Or.inl (by omega)), (KP.fr (KP.fr (KP.refl (M := M)) fr2 (fun _ => rfl)) fr1042 (fun _ => rfl))⟩⟩⟩
    refine s_if_eq (t := 45) kx_196_29 (by decide) (fun hc16 => ?_) (fun hc16 => ?_)
    · have hJ17 : Fr fS_196_j29 M2 M2 := Fr.refl
      replace v15p := v15p.resolve_left (by omega)
      refine s_iconst (v := 0) kx_196_45 (by decide) ?_
      exact cP.wk (lS1 rfl (lS1 rfl lS0)) (jn22 0 (by omega) (by omega) (by omega))
    · have hJ18 : Fr fS_196_j29 M2 M2 := Fr.refl
      replace v15p := v15p.resolve_right (by omega)
      refine s_aload_n kx_196_32 rfl ?_
      refine r_getR (k := 63) (f := 39) (k2 := 87) kx_196_33 kp_196_130 (tk_63 hT) kf_12_39 (by decide) (rq_63_39 hI2) ?_
      refine s_iload_n kx_196_36 rfl ?_
      refine r_bald (k := 87) kx_196_37 (tk_87 hT) ⟨by omega, by omega⟩ (rg_87 hI2) (fun v19 v19e v19a v19b => ?_)
      refine s_if_eq (t := 45) kx_196_38 (by decide) (fun hc20 => ?_) (fun hc20 => ?_)
      · refine s_iconst (v := 0) kx_196_45 (by decide) ?_
        exact cP.wk (lS1 rfl (lS1 rfl lS0)) (jn22 0 (by omega) (by omega) (by omega))
      · refine s_iconst (v := 1) kx_196_41 (by decide) ?_
        refine s_goto (t := 46) kx_196_42 (by decide) ?_
        exact cP.wk (lS1 rfl (lS1 rfl lS0)) (jn22 1 (by omega) (by omega) (by omega))
  · refine s_iconst (v := 1) kx_196_11 (by decide) ?_
    have hk1085 : M2 63 9 = v11 := v11e
    exact s_iret kx_196_12 (Or.inr ⟨kq_196, by omega⟩) ⟨_, _, rfl, rfl, hI2, hFm2, ⟨by omega, by omega, (LXp.fr hX fr2 rfl), (by omega), (by omega), ⟨(Or.inl (by omega)), (KP.fr (KP.refl (M := M)) fr2 (fun _ => rfl))⟩⟩⟩
