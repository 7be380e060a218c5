/-! what going takes: both sides say the same -/
def pTk (D S : cM) (p r c : Int) : Int := if pCg D S p r c = 1 then pMi D S p r c else -1
theorem pTk_1 {D S : cM} {p r c v : Int} (h : (v = -1 ∧ pCg D S p r c = 0) ∨ (v = pMi D S p r c ∧ pCg D S p r c = 1)) : v = pTk D S p r c := by
  unfold pTk
  rcases h with ⟨h1, h2⟩ | ⟨h1, h2⟩
  · rw [if_neg (by omega), h1]
  · rw [if_pos h2, h1]
def gC_146_m : List (Nat × Nat) := [(20, 99999), (23, 99999), (37, 99999), (40, 99999), (43, 99999)]
theorem g_146 {xs : Nat → Int} {Ln d : Nat} {T : List cK} {M : cM} (hT : TT T) (hI : Rng M) {t : Nat} (ht : t = 8 ∨ t = 25) (h70 : M 7 0 = ((t : Nat) : Int)) {person room chair : Int} {D S : cM} (hC : CR D S t M) (hG : Gm T M) : cC k_P xs Ln (d + 6) 146 [rf 0, (0, person), (0, room), (0, chair)] (T, M) (qW T M gC_146_m 0 (fun v M1 => v = pTk D S person room chair)) := by
  show cP k_P xs Ln (d + 6) 146 0 [(0, rf 0), (1, (0, person)), (2, (0, room)), (3, (0, chair))] [] (T, M) _
  have hFm : Fr gC_146_m M M := Fr.refl
  have hD := hC.2.1
  have hDr := hD.rg
  have hSW := hC.2.2.2.2.1
  refine s_aload_n kx_146_0 rfl ?_
  refine r_getR (k := 0) (f := 2) (k2 := 7) kx_146_1 kp_146_26 (tk_0 hT) kf_11_2 (by decide) (rq_0_2 hI) ?_
  refine s_iload_n kx_146_4 rfl ?_
  refine s_iload_n kx_146_5 rfl ?_
  refine s_iload_n kx_146_6 rfl ?_
  refine s_callV2 (k := 7) (s1 := 4) (s2 := 0) (as := [(0, chair), (0, room), (0, person)]) (rest := []) kx_146_7 kp_146_228 (Or.inl rfl) rfl (tk_7 hT) ki_61 kcl_61 rfl rfl (by decide) (g_61 (d := d) (person := person) (to := room) (chair := chair) hT hI ht h70 hC hG) (kW (fun v1 M2 hI2 fr2 v1p => ?_))
  have hFm2 := hFm.call fr2 rfl
  have hc3 := (CR.fr hC fr2 ht rfl)
  exact s_iret kx_146_10 (Or.inl kq_146) ⟨_, _, rfl, rfl, hI2, hFm2, (pTk_1 (v1p.elim (fun z => Or.inl z) (fun z => Or.inr ⟨z.1, z.2.2.2.2.2.2.2.2⟩)))⟩
def gR_255_m : List (Nat × Nat) := [(102, 99999), (63, 62), (63, 63), (63, 64)]
theorem g_255 {xs : Nat → Int} {Ln d : Nat} {T : List cK} {M : cM} (hT : TT T) (hI : Rng M) {p r c : Int} {D S : cM} (hR : RR D S M) : cC k_P xs Ln (d + 6) 255 [rf 63, (0, p), (0, r), (0, c)] (T, M) (qW T M gR_255_m 0 (fun v M1 => v = pTk D S p r c)) := by
  show cP k_P xs Ln (d + 6) 255 0 [(0, rf 63), (1, (0, p)), (2, (0, r)), (3, (0, c))] [] (T, M) _
  have hFm : Fr gR_255_m M M := Fr.refl
  have hD := hR.2.1
  have hDr := hD.rg
  have hSW := hR.2.2.2.2.1
  refine s_aload_n kx_255_0 rfl ?_
  refine s_iload_n kx_255_1 rfl ?_
  refine s_iload_n kx_255_2 rfl ?_
  refine s_iload_n kx_255_3 rfl ?_
  refine s_callV2 (k := 63) (s1 := 4) (s2 := 0) (as := [(0, c), (0, r), (0, p)]) (rest := []) kx_255_4 kp_255_527 (Or.inl rfl) rfl (tk_63 hT) ki_253 kcl_253 rfl rfl (by decide) (g_253 (d := d) (p := p) (r := r) (c := c) hT hI hR) (kF (fun v1 v1p => ?_))
  refine s_if_eq (t := 20) kx_255_7 (by decide) (fun hc2 => ?_) (fun hc2 => ?_)
  · replace v1p := v1p.resolve_left (by omega)
    refine s_iconst (v := (-1)) kx_255_20 (by decide) ?_
    exact s_iret kx_255_21 (Or.inl kq_255) ⟨_, _, rfl, rfl, hI, hFm, (pTk_1 (Or.inl ⟨rfl, by omega⟩))⟩
  · replace v1p := v1p.resolve_right (by omega)
    refine s_aload_n kx_255_10 rfl ?_
    refine s_iload_n kx_255_11 rfl ?_
    refine s_iload_n kx_255_12 rfl ?_
    refine s_iload_n kx_255_13 rfl ?_
    refine s_callV2 (k := 63) (s1 := 4) (s2 := 0) (as := [(0, c), (0, r), (0, p)]) (rest := []) kx_255_14 kp_255_530 (Or.inl rfl) rfl (tk_63 hT) ki_254 kcl_254 rfl rfl (by decide) (g_254 (d := d + 1) (p := p) (r := r) (c := c) hT hI hR (by omega) (by omega) (by omega) (by omega) (by omega) (by omega)) (kW (fun v3 M4 hI4 fr4 v3p => ?_))
    have hFm4 := hFm.call fr4 rfl
    have hc5 := (RR.fr hR fr4 rfl)
    refine s_goto (t := 21) kx_255_17 (by decide) ?_
    exact s_iret kx_255_21 (Or.inl kq_255) ⟨_, _, rfl, rfl, hI4, hFm4, (pTk_1 (Or.inr ⟨v3p.2.2, by omega⟩))⟩
