/-! the reference's town -/
def TwI (M : cM) (s : Nat → Int) (n ci k fR NR : Int) (D' : cM) : Prop := (fR ≠ 0 ∧ FlY M fR) ∨ (M 63 9 = 0 ∧ ∃ D q, LyA M s n q ∧ (RSD M D ∧ CDR ci M D) ∧ DW D ∧ (k = 80 → owK s n q = 0) ∧ RdR s n (81 - k).toNat D q k fR NR D')
def TwY (M M1 : cM) (fR NR v : Int) (D' : cM) : Prop := (fR ≠ 0 ∧ v = -1 ∧ 1 ≤ M1 63 11 ∧ 0 ≤ M1 63 12 ∧ M1 63 12 < 10000 ∧ 10000 * M1 63 11 + M1 63 12 = fR ∧ M1 63 14 = M 63 14 ∧ KBt (M 63 14) M M1) ∨ (fR = 0 ∧ v = NR ∧ 0 ≤ v ∧ M1 63 11 = 0 ∧ M1 63 12 = -1 ∧ M1 63 14 = 1 - M 63 14 ∧ M1 63 36 = M1 63 14 ∧ RSD M1 D' ∧ CDR (1 - M 63 14) M1 D')
section YW
variable {M M1 D D' : cM} {s : Nat → Int} {n k fR NR q ci : Int}
theorem CDR.init (h : DC D) : CDR ci M D := ⟨fun z => absurd h.2.2.2.2.2.1 z, fun z => absurd h.2.2.2.2.2.2 z⟩
theorem RSD.init (h : DC D) (h65 : M 65 (M 63 36).toNat = 0) (h69 : M 69 (M 63 36).toNat = 0) (h79 : M 79 (M 63 36).toNat = 0) (h80 : M 80 (M 63 36).toNat = -1) (h75 : M 75 (M 63 36).toNat = -1) (h77 : M 77 (M 63 36).toNat = -1) : RSD M D := by
  obtain ⟨a, b, c, d, h4, e, f⟩ := h
  refine ⟨by omega, by omega, by omega, by omega, fun i hi => by omega, fun i hi => by omega, ?_, ?_, fun p q hp hq => by omega, fun p q hp hq _ => h4 _ (by omega)⟩
  · exact ⟨fun _ => h75, fun _ => e⟩
  · exact ⟨fun _ => h77, fun _ => f⟩
theorem TwI.z (h : TwI M s n ci k fR NR D') (h9 : M 63 9 = 0) : ∃ D q, LyA M s n q ∧ (RSD M D ∧ CDR ci M D) ∧ DW D ∧ (k = 80 → owK s n q = 0) ∧ RdR s n (81 - k).toNat D q k fR NR D' := by
  rcases h with h | h
  · have := h.2.1
    omega
  · exact h.2
theorem TwI.f (h : TwI M s n ci k fR NR D') (h9 : M 63 9 ≠ 0) : fR ≠ 0 ∧ FlY M fR := by
  rcases h with h | h
  · exact h
  · exact absurd h.1 h9
theorem rd_un {m : Nat} (h : RdR s n (m + 1) D q k fR NR D') : if owK s n q = 0 then fR = 0 ∧ NR = k ∧ D' = D else if k = 80 then fR = 60000 + owB s n q else ∃ f1 D1 q1, FinR s n D q f1 D1 q1 ∧ ((f1 ≠ 0 ∧ fR = f1) ∨ (f1 = 0 ∧ RdR s n m D1 q1 (k + 1) fR NR D')) := h
theorem TwI.e (h : TwI M s n ci k fR NR D') (h9 : M 63 9 = 0) (h3 : M 63 3 = 0) (hk : k ≤ 80) : fR = 0 ∧ NR = k ∧ M 63 10 = -1 ∧ RSD M D' ∧ CDR ci M D' := by
  obtain ⟨D, q, h1, h2, h4, h5, h6⟩ := h.z h9
  have hK := h1.kinds
  rw [show (81 - k).toNat = (80 - k).toNat + 1 by omega] at h6
  have h7 := rd_un h6
  rw [if_pos (by omega)] at h7
  exact ⟨h7.1, h7.2.1, h1.2.2.2.2.2.2.2.2.2.2.2.2, h7.2.2 ▸ h2⟩
theorem tw_mid {m : Nat} (hq : 0 ≤ q ∧ q ≤ n) (h : StR M s n ci D q) (hK : owK s n q ≠ 0) (hk : k ≠ 80) (hr : RdR s n (m + 1) D q k fR NR D') : ∃ f2 q2, Yst M s n f2 q2 ∧ ((f2 ≠ 0 ∧ f2 = fR) ∨ (f2 = 0 ∧ ((owG s n q2 59 = 0 ∧ fR = owU s n q2) ∨ (owG s n q2 59 = 1 ∧ ∃ D2, (RSD M D2 ∧ CDR ci M D2) ∧ DW D2 ∧ RdR s n m D2 (owE s n q2) (k + 1) fR NR D')))) := by
  have h7 := rd_un hr
  rw [if_neg hK, if_neg hk] at h7
  obtain ⟨f1, D1, q1, g1, g2⟩ := h7
  rcases h with ⟨f, a1, a2, a3⟩ | ⟨a0, D2, q2, a1, a2, a3, a4, a5⟩
  · have hd := (a3 D1 q1).det hq.1 hq.2 g1
    refine ⟨f, 0, Or.inl ⟨a1, a2⟩, Or.inl ⟨a1, ?_⟩⟩
    rcases g2 with g2 | g2
    · omega
    · omega
  · refine ⟨0, q2, Or.inr ⟨rfl, a0, a1⟩, Or.inr ⟨rfl, ?_⟩⟩
    have u := owU_pos (s := s) (n := n) a1.2.2.1
    have hg01 := owG01 (s := s) (n := n) (p := q2) (c := 59)
    by_cases hg : owG s n q2 59 = 0
    · have hd := (a5 hg D1 q1).det hq.1 hq.2 g1
      refine Or.inl ⟨hg, ?_⟩
      rcases g2 with g2 | g2
      · omega
      · omega
    · have hg1 : owG s n q2 59 = 1 := by omega
      have hd := (a4 hg1).det hq.1 hq.2 g1
      have hd2 := hd.2 rfl
      refine Or.inr ⟨hg1, D2, a2, a3, ?_⟩
      rcases g2 with g2 | g2
      · exact absurd hd.1.symm g2.1
      · rw [hd2.1, hd2.2]
        exact g2.2
theorem tw_back {f2 q2 : Int} (hY : Yst M1 s n (yFi s n f2 q2 (k + 1)) (owE s n q2)) (hq : f2 = 0 → 0 ≤ q2) (hc : (f2 ≠ 0 ∧ f2 = fR) ∨ (f2 = 0 ∧ ((owG s n q2 59 = 0 ∧ fR = owU s n q2) ∨ (owG s n q2 59 = 1 ∧ ∃ D2, (RSD M D2 ∧ CDR ci M D2) ∧ DW D2 ∧ RdR s n (80 - k).toNat D2 (owE s n q2) (k + 1) fR NR D')))) (hR : ∀ D2, RSD M D2 ∧ CDR ci M D2 → RSD M1 D2 ∧ CDR ci M1 D2) (hk : 0 ≤ k ∧ k < 80) : TwI M1 s n ci (k + 1) fR NR D' := by
  rcases hc with ⟨c1, c2⟩ | ⟨c1, c2⟩
  · have e : yFi s n f2 q2 (k + 1) = fR := by unfold yFi; rw [if_pos c1, c2]
    rw [e] at hY
    rcases hY with hY | hY
    · exact Or.inl hY
    · omega
  · have u := owU_pos (s := s) (n := n) (hq c1)
    rcases c2 with ⟨d1, d2⟩ | ⟨d1, D2, d2, d3, d4⟩
    · have e : yFi s n f2 q2 (k + 1) = fR := by unfold yFi; rw [if_neg (by omega), if_pos d1, d2]
      rw [e] at hY
      rcases hY with hY | hY
      · exact Or.inl hY
      · omega
    · by_cases g : k + 1 = 80 ∧ owB s n (owE s n q2) < n
      · have e : yFi s n f2 q2 (k + 1) = 60000 + owB s n (owE s n q2) := by unfold yFi; rw [if_neg (by omega), if_neg (by omega), if_pos g]
        rw [show (80 - k).toNat = 0 + 1 by omega] at d4
        have h7 := rd_un d4
        rw [if_neg (fun z => by have := owK0.mp z; omega), if_pos g.1] at h7
        rw [e, ← h7] at hY
        rcases hY with hY | hY
        · exact Or.inl hY
        · have := owB_ge (s := s) (n := n) (p := owE s n q2)
          exfalso
          have e1 := hY.1
          have e2 := hY.2.2.2.2.1
          omega
      · have e : yFi s n f2 q2 (k + 1) = 0 := by unfold yFi; rw [if_neg (by omega), if_neg (by omega), if_neg g]
        rw [e] at hY
        rcases hY with hY | hY
        · exact absurd rfl hY.1
        · refine Or.inr ⟨hY.2.1, D2, owE s n q2, hY.2.2, hR D2 d2, d3, fun g8 => owK0.mpr (by omega), ?_⟩
          rw [show (81 - (k + 1)).toNat = (80 - k).toNat by omega]
          exact d4
theorem Yst.q0 {f : Int} (h : Yst M s n f q) (hf : f = 0) : 0 ≤ q := by
  rcases h with h | h
  · exact absurd hf h.1
  · exact h.2.2.2.2.1
end YW
theorem tw_ms {M0 M1 M2 : cM} (h1 : SLd M0 M1) (h2 : PRd M1 M2) (h9 : M1 63 9 ≤ M2 63 9) (h4 : M1 63 4 ≤ M2 63 4) (e35 : M2 63 35 = M1 63 35) (g : TSg M1 → TSg M2) : 1 ≤ M2 63 9 ∨ (TSg M2 ∧ M2 63 35 ≤ M2 63 4) := by
  by_cases h : 1 ≤ M2 63 9
  · exact Or.inl h
  · rcases h1 with a | ⟨a, b, c⟩
    · exact absurd (Int.le_trans a h9) h
    · exact Or.inr ⟨g b, by omega⟩
theorem tw_me {M0 M1 M2 : cM} {k : Nat} (h1 : SLd M0 M1) (h2 : PRd M1 M2) (h9 : M1 63 9 ≤ M2 63 9) (h4 : M1 63 4 ≤ M2 63 4) (h3 : M0 63 4 ≤ M1 63 4) (r4 : 0 ≤ M2 63 4 ∧ M2 63 4 ≤ 1600) (r9 : 0 ≤ M2 63 9 ∧ M2 63 9 ≤ 6) (h0 : M0 63 9 = 0) (hm : (2 * (1600 - M0 63 4) + 6 - M0 63 9).toNat < k + 1) : (2 * (1600 - M2 63 4) + 6 - M2 63 9).toNat < k := by
  have h5 : 1 ≤ M1 63 9 ∨ M0 63 4 + 1 ≤ M1 63 4 := by
    rcases h1 with a | a
    · exact Or.inl a
    · exact Or.inr a.1
  clear h1 h2
  omega
theorem tw_y1 {M0 M1 : cM} {fR v a b : Int} (h : fR ≠ 0 ∧ FlY M0 fR) (ea : M0 63 9 = a) (eb : M0 63 10 = b) (e11 : M1 63 11 = a) (e12 : M1 63 12 = b) (hv : v = -1) : fR ≠ 0 ∧ v = -1 ∧ 1 ≤ M1 63 11 ∧ 0 ≤ M1 63 12 ∧ M1 63 12 < 10000 ∧ 10000 * M1 63 11 + M1 63 12 = fR := by
  obtain ⟨h0, h1, h2, h3, h4⟩ := h
  exact ⟨h0, hv, by omega, by omega, by omega, by omega⟩
theorem tw_y2 {M M0 M1 : cM} {fR NR k a b c : Int} (h1 : fR = 0) (h2 : NR = k) (hk : 0 ≤ k) (ea : M0 63 9 = a) (ha : a = 0) (eb : M0 63 10 = b) (h3 : M0 63 10 = -1) (e11 : M1 63 11 = a) (e12 : M1 63 12 = b) (e14 : M1 63 14 = 1 - c) (hc : M 63 14 = c) (e36 : M1 63 36 = 1 - c) : fR = 0 ∧ k = NR ∧ 0 ≤ k ∧ M1 63 11 = 0 ∧ M1 63 12 = -1 ∧ M1 63 14 = 1 - M 63 14 ∧ M1 63 36 = M1 63 14 := by
  exact ⟨h1, by omega, hk, by omega, by omega, by omega, by omega⟩
def gS_216_l109 : List (Nat × Nat) := [(63, 10), (63, 13), (63, 3), (63, 35), (63, 4), (63, 42), (63, 43), (63, 45), (63, 46), (63, 5), (63, 6), (63, 7), (63, 8), (63, 9), (65, 99999), (66, 99999), (67, 99999), (68, 99999), (69, 99999), (70, 99999), (71, 99999), (72, 99999), (73, 99999), (74, 99999), (75, 99999), (76, 99999), (77, 99999), (78, 99999), (79, 99999), (80, 99999), (81, 99999), (82, 99999), (83, 99999), (84, 99999), (85, 99999), (86, 99999), (87, 99999), (88, 99999), (89, 99999), (90, 99999)]
def gS_216_m : List (Nat × Nat) := [(63, 1), (63, 10), (63, 11), (63, 12), (63, 13), (63, 14), (63, 2), (63, 3), (63, 35), (63, 36), (63, 4), (63, 42), (63, 43), (63, 45), (63, 46), (63, 5), (63, 59), (63, 6), (63, 68), (63, 7), (63, 70), (63, 8), (63, 9), (65, 99999), (66, 99999), (67, 99999), (68, 99999), (69, 99999), (70, 99999), (71, 99999), (72, 99999), (73, 99999), (74, 99999), (75, 99999), (76, 99999), (77, 99999), (78, 99999), (79, 99999), (80, 99999), (81, 99999), (82, 99999), (83, 99999), (84, 99999), (85, 99999), (86, 99999), (87, 99999), (88, 99999), (89, 99999), (90, 99999), (91, 99999), (92, 99999), (93, 99999), (94, 99999), (95, 99999), (96, 99999), (97, 99999)]
set_option maxHeartbeats 8000000 in
theorem f_216 {xs : Nat → Int} {Ln d : Nat} {T : List cK} {M : cM} (hT : TT T) (hI : Rng M) (hS : Sg M) {s : Nat → Int} {n fR NR : Int} {D0 D' : cM} (hs : M 64 = s) (hsz : M 63 1 = n) (hrd0 : RdR s n 81 D0 0 0 fR NR D') (hDC : DC D0) : cC k_P xs Ln (d + 7) 216 [rf 63] (T, M) (qW T M gS_216_m 0 (fun v M1 => M1 63 1 = 0 ∧ Sg M1 ∧ TwY M M1 fR NR v D')) := by
  show cP k_P xs Ln (d + 7) 216 0 [(0, rf 63)] [] (T, M) _
  have hFm : Fr gS_216_m M M := Fr.refl
  have hb14 := rg_63_14 hI
  have hsr := rg_63_1 hI
  have hn : n ≤ 1600 := by omega
  have hn0 : 0 ≤ n := by omega
  refine s_aload_n kx_216_0 rfl ?_
  refine s_aload_n kx_216_1 rfl ?_
  refine r_getI (k := 63) (f := 1) kx_216_2 kp_216_13 (tk_63 hT) kf_12_1 (fun _ => rfl) (rg_63_1 hI) (fun v1 v1e v1a v1b => ?_)
  refine r_put (k := 63) (f := 2) kx_216_5 kp_216_17 (tk_63 hT) kf_12_2 rfl (by decide) (by decide) hI (ru_63_2 (by omega) (by omega)) (fun M2 hI2 u2 => ?_)
  have hFm2 := hFm.up u2 rfl
  have tr3 := (u2.2 63 3 (fun h => absurd h.2 (by decide)))
  have tr4 := (u2.2 63 4 (fun h => absurd h.2 (by decide)))
  have tr5 := (u2.2 63 5 (fun h => absurd h.2 (by decide)))
  have tr6 := (u2.2 63 9 (fun h => absurd h.2 (by decide)))
  have tr7 := (u2.2 63 35 (fun h => absurd h.2 (by decide)))
  have tr8 := (u2.2 63 36 (fun h => absurd h.2 (by decide)))
  have tr9 := (u2.2 63 14 (fun h => absurd h.2 (by decide)))
  have tr10 := (u2.2 63 10 (fun h => absurd h.2 (by decide)))
  refine s_aload_n kx_216_8 rfl ?_
  refine s_iconst (v := 0) kx_216_9 (by decide) ?_
  refine r_put (k := 63) (f := 1) kx_216_10 kp_216_13 (tk_63 hT) kf_12_1 rfl (by decide) (by decide) hI2 (ru_63_1 (by omega) (by omega)) (fun M11 hI11 u11 => ?_)
  have hFm11 := hFm2.up u11 rfl
  have tr12 := (u11.2 63 3 (fun h => absurd h.2 (by decide)))
  have tr13 := (u11.2 63 4 (fun h => absurd h.2 (by decide)))
  have tr14 := (u11.2 63 5 (fun h => absurd h.2 (by decide)))
  have tr15 := (u11.2 63 9 (fun h => absurd h.2 (by decide)))
  have tr16 := (u11.2 63 35 (fun h => absurd h.2 (by decide)))
  have tr17 := (u11.2 63 36 (fun h => absurd h.2 (by decide)))
  have tr18 := (u11.2 63 14 (fun h => absurd h.2 (by decide)))
  have tr19 := (u11.2 63 10 (fun h => absurd h.2 (by decide)))
  refine s_aload_n kx_216_13 rfl ?_
  refine s_iconst (v := 0) kx_216_14 (by decide) ?_
  refine r_put (k := 63) (f := 5) kx_216_15 kp_216_26 (tk_63 hT) kf_12_5 rfl (by decide) (by decide) hI11 (ru_63_5 (by omega) (by omega)) (fun M20 hI20 u20 => ?_)
  have hFm20 := hFm11.up u20 rfl
  have tr21 := (u20.2 63 3 (fun h => absurd h.2 (by decide)))
  have tr22 := (u20.2 63 4 (fun h => absurd h.2 (by decide)))
  have tr23 := u20.1
  have tr24 := (u20.2 63 9 (fun h => absurd h.2 (by decide)))
  have tr25 := (u20.2 63 35 (fun h => absurd h.2 (by decide)))
  have tr26 := (u20.2 63 36 (fun h => absurd h.2 (by decide)))
  have tr27 := (u20.2 63 14 (fun h => absurd h.2 (by decide)))
  have tr28 := (u20.2 63 10 (fun h => absurd h.2 (by decide)))
  refine s_aload_n kx_216_18 rfl ?_
  refine s_iconst (v := 0) kx_216_19 (by decide) ?_
  refine r_put (k := 63) (f := 9) kx_216_20 kp_216_39 (tk_63 hT) kf_12_9 rfl (by decide) (by decide) hI20 (ru_63_9 (by omega) (by omega)) (fun M29 hI29 u29 => ?_)
  have hFm29 := hFm20.up u29 rfl
  have tr30 := (u29.2 63 3 (fun h => absurd h.2 (by decide)))
  have tr31 := (u29.2 63 4 (fun h => absurd h.2 (by decide)))
  have tr32 := (u29.2 63 5 (fun h => absurd h.2 (by decide)))
  have tr33 := u29.1
  have tr34 := (u29.2 63 35 (fun h => absurd h.2 (by decide)))
  have tr35 := (u29.2 63 36 (fun h => absurd h.2 (by decide)))
  have tr36 := (u29.2 63 14 (fun h => absurd h.2 (by decide)))
  have tr37 := (u29.2 63 10 (fun h => absurd h.2 (by decide)))
  refine s_aload_n kx_216_23 rfl ?_
  refine s_iconst (v := (-1)) kx_216_24 (by decide) ?_
  refine r_put (k := 63) (f := 10) kx_216_25 kp_216_42 (tk_63 hT) kf_12_10 rfl (by decide) (by decide) hI29 ru_63_10 (fun M38 hI38 u38 => ?_)
  have hFm38 := hFm29.up u38 rfl
  have tr39 := (u38.2 63 3 (fun h => absurd h.2 (by decide)))
  have tr40 := (u38.2 63 4 (fun h => absurd h.2 (by decide)))
  have tr41 := (u38.2 63 5 (fun h => absurd h.2 (by decide)))
  have tr42 := (u38.2 63 9 (fun h => absurd h.2 (by decide)))
  have tr43 := (u38.2 63 35 (fun h => absurd h.2 (by decide)))
  have tr44 := (u38.2 63 36 (fun h => absurd h.2 (by decide)))
  have tr45 := (u38.2 63 14 (fun h => absurd h.2 (by decide)))
  have tr46 := u38.1
  refine s_aload_n kx_216_28 rfl ?_
  refine s_iconst (v := 1) kx_216_29 (by decide) ?_
  refine s_aload_n kx_216_30 rfl ?_
  refine r_getI (k := 63) (f := 14) kx_216_31 kp_216_54 (tk_63 hT) kf_12_14 (fun _ => rfl) (rg_63_14 hI38) (fun v47 v47e v47a v47b => ?_)
  have v47z : M 63 14 = v47 := (((u38.2 63 14 (fun h => absurd h.2 (by decide))).trans ((u29.2 63 14 (fun h => absurd h.2 (by decide))).trans ((u20.2 63 14 (fun h => absurd h.2 (by decide))).trans ((u11.2 63 14 (fun h => absurd h.2 (by decide))).trans (u2.2 63 14 (fun h => absurd h.2 (by decide)))))))).symm.trans v47e
  refine r_sub kx_216_34 ⟨by omega, by omega⟩ ?_
  refine r_put (k := 63) (f := 36) kx_216_35 kp_216_121 (tk_63 hT) kf_12_36 rfl (by decide) (by decide) hI38 (ru_63_36 (by omega) (by omega)) (fun M48 hI48 u48 => ?_)
  have hFm48 := hFm38.up u48 rfl
  have tr49 := (u48.2 63 3 (fun h => absurd h.2 (by decide)))
  have tr50 := (u48.2 63 4 (fun h => absurd h.2 (by decide)))
  have tr51 := (u48.2 63 5 (fun h => absurd h.2 (by decide)))
  have tr52 := (u48.2 63 9 (fun h => absurd h.2 (by decide)))
  have tr53 := (u48.2 63 35 (fun h => absurd h.2 (by decide)))
  have tr54 := u48.1
  have tr55 := (u48.2 63 14 (fun h => absurd h.2 (by decide)))
  have tr56 := (u48.2 63 10 (fun h => absurd h.2 (by decide)))
  refine s_aload_n kx_216_38 rfl ?_
  refine r_getR (k := 63) (f := 15) (k2 := 65) kx_216_39 kp_216_57 (tk_63 hT) kf_12_15 (by decide) (rq_63_15 hI48) ?_
  refine s_aload_n kx_216_42 rfl ?_
  refine r_getK (k := 63) (f := 36) kx_216_43 kp_216_121 (tk_63 hT) kf_12_36 (fun _ => rfl) u48.1 ?_
  refine s_iconst (v := 0) kx_216_46 (by decide) ?_
  refine r_ast (k := 65) kx_216_47 (tk_65 hT) ⟨by omega, by omega⟩ hI48 (ru_65 (by omega) (by omega)) (fun M57 hI57 u57 => ?_)
  have hFm57 := hFm48.up u57 rfl
  have tr58 := (u57.2 63 3 (fun h => absurd h.1 (by decide)))
  have tr59 := (u57.2 63 4 (fun h => absurd h.1 (by decide)))
  have tr60 := (u57.2 63 5 (fun h => absurd h.1 (by decide)))
  have tr61 := (u57.2 63 9 (fun h => absurd h.1 (by decide)))
  have tr62 := (u57.2 63 35 (fun h => absurd h.1 (by decide)))
  have tr63 := (u57.2 63 36 (fun h => absurd h.1 (by decide)))
  have tr64 := (u57.2 63 14 (fun h => absurd h.1 (by decide)))
  have tr65 := (u57.2 63 10 (fun h => absurd h.1 (by decide)))
  refine s_aload_n kx_216_48 rfl ?_
  refine r_getR (k := 63) (f := 19) (k2 := 69) kx_216_49 kp_216_69 (tk_63 hT) kf_12_19 (by decide) (rq_63_19 hI57) ?_
  refine s_aload_n kx_216_52 rfl ?_
  refine r_getK (k := 63) (f := 36) kx_216_53 kp_216_121 (tk_63 hT) kf_12_36 (fun _ => rfl) ((u57.2 63 36 (fun h => absurd h.1 (by decide))).trans u48.1) ?_
  refine s_iconst (v := 0) kx_216_56 (by decide) ?_
  refine r_ast (k := 69) kx_216_57 (tk_69 hT) ⟨by omega, by omega⟩ hI57 (ru_69 (by omega) (by omega)) (fun M66 hI66 u66 => ?_)
  have hFm66 := hFm57.up u66 rfl
  have tr67 := (u66.2 63 3 (fun h => absurd h.1 (by decide)))
  have tr68 := (u66.2 63 4 (fun h => absurd h.1 (by decide)))
  have tr69 := (u66.2 63 5 (fun h => absurd h.1 (by decide)))
  have tr70 := (u66.2 63 9 (fun h => absurd h.1 (by decide)))
  have tr71 := (u66.2 63 35 (fun h => absurd h.1 (by decide)))
  have tr72 := (u66.2 63 36 (fun h => absurd h.1 (by decide)))
  have tr73 := (u66.2 63 14 (fun h => absurd h.1 (by decide)))
  have tr74 := (u66.2 63 10 (fun h => absurd h.1 (by decide)))
  refine s_aload_n kx_216_58 rfl ?_
  refine r_getR (k := 63) (f := 29) (k2 := 79) kx_216_59 kp_216_99 (tk_63 hT) kf_12_29 (by decide) (rq_63_29 hI66) ?_
  refine s_aload_n kx_216_62 rfl ?_
  refine r_getK (k := 63) (f := 36) kx_216_63 kp_216_121 (tk_63 hT) kf_12_36 (fun _ => rfl) ((u66.2 63 36 (fun h => absurd h.1 (by decide))).trans ((u57.2 63 36 (fun h => absurd h.1 (by decide))).trans u48.1)) ?_
  refine s_iconst (v := 0) kx_216_66 (by decide) ?_
  refine r_ast (k := 79) kx_216_67 (tk_79 hT) ⟨by omega, by omega⟩ hI66 ru_79 (fun M75 hI75 u75 => ?_)
  have hFm75 := hFm66.up u75 rfl
  have tr76 := (u75.2 63 3 (fun h => absurd h.1 (by decide)))
  have tr77 := (u75.2 63 4 (fun h => absurd h.1 (by decide)))
  have tr78 := (u75.2 63 5 (fun h => absurd h.1 (by decide)))
  have tr79 := (u75.2 63 9 (fun h => absurd h.1 (by decide)))
  have tr80 := (u75.2 63 35 (fun h => absurd h.1 (by decide)))
  have tr81 := (u75.2 63 36 (fun h => absurd h.1 (by decide)))
  have tr82 := (u75.2 63 14 (fun h => absurd h.1 (by decide)))
  have tr83 := (u75.2 63 10 (fun h => absurd h.1 (by decide)))
  refine s_aload_n kx_216_68 rfl ?_
  refine r_getR (k := 63) (f := 30) (k2 := 80) kx_216_69 kp_216_102 (tk_63 hT) kf_12_30 (by decide) (rq_63_30 hI75) ?_
  refine s_aload_n kx_216_72 rfl ?_
  refine r_getK (k := 63) (f := 36) kx_216_73 kp_216_121 (tk_63 hT) kf_12_36 (fun _ => rfl) ((u75.2 63 36 (fun h => absurd h.1 (by decide))).trans ((u66.2 63 36 (fun h => absurd h.1 (by decide))).trans ((u57.2 63 36 (fun h => absurd h.1 (by decide))).trans u48.1))) ?_
  refine s_iconst (v := (-1)) kx_216_76 (by decide) ?_
  refine r_ast (k := 80) kx_216_77 (tk_80 hT) ⟨by omega, by omega⟩ hI75 ru_80 (fun M84 hI84 u84 => ?_)
  have hFm84 := hFm75.up u84 rfl
  have tr85 := (u84.2 63 3 (fun h => absurd h.1 (by decide)))
  have tr86 := (u84.2 63 4 (fun h => absurd h.1 (by decide)))
  have tr87 := (u84.2 63 5 (fun h => absurd h.1 (by decide)))
  have tr88 := (u84.2 63 9 (fun h => absurd h.1 (by decide)))
  have tr89 := (u84.2 63 35 (fun h => absurd h.1 (by decide)))
  have tr90 := (u84.2 63 36 (fun h => absurd h.1 (by decide)))
  have tr91 := (u84.2 63 14 (fun h => absurd h.1 (by decide)))
  have tr92 := (u84.2 63 10 (fun h => absurd h.1 (by decide)))
  refine s_aload_n kx_216_78 rfl ?_
  refine r_getR (k := 63) (f := 25) (k2 := 75) kx_216_79 kp_216_87 (tk_63 hT) kf_12_25 (by decide) (rq_63_25 hI84) ?_
  refine s_aload_n kx_216_82 rfl ?_
  refine r_getK (k := 63) (f := 36) kx_216_83 kp_216_121 (tk_63 hT) kf_12_36 (fun _ => rfl) ((u84.2 63 36 (fun h => absurd h.1 (by decide))).trans ((u75.2 63 36 (fun h => absurd h.1 (by decide))).trans ((u66.2 63 36 (fun h => absurd h.1 (by decide))).trans ((u57.2 63 36 (fun h => absurd h.1 (by decide))).trans u48.1)))) ?_
  refine s_iconst (v := (-1)) kx_216_86 (by decide) ?_
  refine r_ast (k := 75) kx_216_87 (tk_75 hT) ⟨by omega, by omega⟩ hI84 (ru_75 (by omega) (by omega)) (fun M93 hI93 u93 => ?_)
  have hFm93 := hFm84.up u93 rfl
  have tr94 := (u93.2 63 3 (fun h => absurd h.1 (by decide)))
  have tr95 := (u93.2 63 4 (fun h => absurd h.1 (by decide)))
  have tr96 := (u93.2 63 5 (fun h => absurd h.1 (by decide)))
  have tr97 := (u93.2 63 9 (fun h => absurd h.1 (by decide)))
  have tr98 := (u93.2 63 35 (fun h => absurd h.1 (by decide)))
  have tr99 := (u93.2 63 36 (fun h => absurd h.1 (by decide)))
  have tr100 := (u93.2 63 14 (fun h => absurd h.1 (by decide)))
  have tr101 := (u93.2 63 10 (fun h => absurd h.1 (by decide)))
  refine s_aload_n kx_216_88 rfl ?_
  refine r_getR (k := 63) (f := 27) (k2 := 77) kx_216_89 kp_216_93 (tk_63 hT) kf_12_27 (by decide) (rq_63_27 hI93) ?_
  refine s_aload_n kx_216_92 rfl ?_
  refine r_getK (k := 63) (f := 36) kx_216_93 kp_216_121 (tk_63 hT) kf_12_36 (fun _ => rfl) ((u93.2 63 36 (fun h => absurd h.1 (by decide))).trans ((u84.2 63 36 (fun h => absurd h.1 (by decide))).trans ((u75.2 63 36 (fun h => absurd h.1 (by decide))).trans ((u66.2 63 36 (fun h => absurd h.1 (by decide))).trans ((u57.2 63 36 (fun h => absurd h.1 (by decide))).trans u48.1))))) ?_
  refine s_iconst (v := (-1)) kx_216_96 (by decide) ?_
  refine r_ast (k := 77) kx_216_97 (tk_77 hT) ⟨by omega, by omega⟩ hI93 (ru_77 (by omega) (by omega)) (fun M102 hI102 u102 => ?_)
  have hFm102 := hFm93.up u102 rfl
  have tr103 := (u102.2 63 3 (fun h => absurd h.1 (by decide)))
  have tr104 := (u102.2 63 4 (fun h => absurd h.1 (by decide)))
  have tr105 := (u102.2 63 5 (fun h => absurd h.1 (by decide)))
  have tr106 := (u102.2 63 9 (fun h => absurd h.1 (by decide)))
  have tr107 := (u102.2 63 35 (fun h => absurd h.1 (by decide)))
  have tr108 := (u102.2 63 36 (fun h => absurd h.1 (by decide)))
  have tr109 := (u102.2 63 14 (fun h => absurd h.1 (by decide)))
  have tr110 := (u102.2 63 10 (fun h => absurd h.1 (by decide)))
  refine s_aload_n kx_216_98 rfl ?_
  refine s_iconst (v := 0) kx_216_99 (by decide) ?_
  refine r_put (k := 63) (f := 35) kx_216_100 kp_216_118 (tk_63 hT) kf_12_35 rfl (by decide) (by decide) hI102 (ru_63_35 (by omega) (by omega)) (fun M111 hI111 u111 => ?_)
  have hFm111 := hFm102.up u111 rfl
  have tr112 := (u111.2 63 3 (fun h => absurd h.2 (by decide)))
  have tr113 := (u111.2 63 4 (fun h => absurd h.2 (by decide)))
  have tr114 := (u111.2 63 5 (fun h => absurd h.2 (by decide)))
  have tr115 := (u111.2 63 9 (fun h => absurd h.2 (by decide)))
  have tr116 := u111.1
  have tr117 := (u111.2 63 36 (fun h => absurd h.2 (by decide)))
  have tr118 := (u111.2 63 14 (fun h => absurd h.2 (by decide)))
  have tr119 := (u111.2 63 10 (fun h => absurd h.2 (by decide)))
  refine s_iconst (v := 0) kx_216_103 (by decide) ?_
  refine s_istore_n kx_216_104 km_216_1 rfl ?_
  have hts : TSg M111 := ⟨Or.inl (by rw [((u111.2 63 36 (fun h => absurd h.2 (by decide))).trans ((u102.2 63 36 (fun h => absurd h.1 (by decide))).trans ((u93.2 63 36 (fun h => absurd h.1 (by decide))).trans ((u84.2 63 36 (fun h => absurd h.1 (by decide))).trans ((u75.2 63 36 (fun h => absurd h.1 (by decide))).trans ((u66.2 63 36 (fun h => absurd h.1 (by decide))).trans ((u57.2 63 36 (fun h => absurd h.1 (by decide))).trans u48.1)))))))]; exact ((u111.2 75 _ (fun h => absurd h.1 (by decide))).trans ((u102.2 75 _ (fun h => absurd h.1 (by decide))).trans u93.1))), Or.inl (by rw [((u111.2 63 36 (fun h => absurd h.2 (by decide))).trans ((u102.2 63 36 (fun h => absurd h.1 (by decide))).trans ((u93.2 63 36 (fun h => absurd h.1 (by decide))).trans ((u84.2 63 36 (fun h => absurd h.1 (by decide))).trans ((u75.2 63 36 (fun h => absurd h.1 (by decide))).trans ((u66.2 63 36 (fun h => absurd h.1 (by decide))).trans ((u57.2 63 36 (fun h => absurd h.1 (by decide))).trans u48.1)))))))]; exact ((u111.2 77 _ (fun h => absurd h.1 (by decide))).trans u102.1))⟩
  have hk120 : M111 63 35 = 0 := u111.1
  have hk121 : M111 63 36 = (1 - v47) := ((u111.2 63 36 (fun h => absurd h.2 (by decide))).trans ((u102.2 63 36 (fun h => absurd h.1 (by decide))).trans ((u93.2 63 36 (fun h => absurd h.1 (by decide))).trans ((u84.2 63 36 (fun h => absurd h.1 (by decide))).trans ((u75.2 63 36 (fun h => absurd h.1 (by decide))).trans ((u66.2 63 36 (fun h => absurd h.1 (by decide))).trans ((u57.2 63 36 (fun h => absurd h.1 (by decide))).trans u48.1)))))))
  have hk122 : M111 63 9 = 0 := ((u111.2 63 9 (fun h => absurd h.2 (by decide))).trans ((u102.2 63 9 (fun h => absurd h.1 (by decide))).trans ((u93.2 63 9 (fun h => absurd h.1 (by decide))).trans ((u84.2 63 9 (fun h => absurd h.1 (by decide))).trans ((u75.2 63 9 (fun h => absurd h.1 (by decide))).trans ((u66.2 63 9 (fun h => absurd h.1 (by decide))).trans ((u57.2 63 9 (fun h => absurd h.1 (by decide))).trans ((u48.2 63 9 (fun h => absurd h.2 (by decide))).trans ((u38.2 63 9 (fun h => absurd h.2 (by decide))).trans u29.1)))))))))
  have hv14 : (1 - v47) = 1 - M 63 14 := by have z1 := ((u111.2 63 14 (fun h => absurd h.2 (by decide))).trans ((u102.2 63 14 (fun h => absurd h.1 (by decide))).trans ((u93.2 63 14 (fun h => absurd h.1 (by decide))).trans ((u84.2 63 14 (fun h => absurd h.1 (by decide))).trans ((u75.2 63 14 (fun h => absurd h.1 (by decide))).trans ((u66.2 63 14 (fun h => absurd h.1 (by decide))).trans ((u57.2 63 14 (fun h => absurd h.1 (by decide))).trans ((u48.2 63 14 (fun h => absurd h.2 (by decide))).trans ((u38.2 63 14 (fun h => absurd h.2 (by decide))).trans ((u29.2 63 14 (fun h => absurd h.2 (by decide))).trans ((u20.2 63 14 (fun h => absurd h.2 (by decide))).trans ((u11.2 63 14 (fun h => absurd h.2 (by decide))).trans (u2.2 63 14 (fun h => absurd h.2 (by decide))))))))))))))); have z2 := ((u111.2 63 14 (fun h => absurd h.2 (by decide))).trans ((u102.2 63 14 (fun h => absurd h.1 (by decide))).trans ((u93.2 63 14 (fun h => absurd h.1 (by decide))).trans ((u84.2 63 14 (fun h => absurd h.1 (by decide))).trans ((u75.2 63 14 (fun h => absurd h.1 (by decide))).trans ((u66.2 63 14 (fun h => absurd h.1 (by decide))).trans ((u57.2 63 14 (fun h => absurd h.1 (by decide))).trans ((u48.2 63 14 (fun h => absurd h.2 (by decide))).trans v47e)))))))); omega
  have hkb0 : KB (M 63 14) M M111 := ⟨((u111.2 63 36 (fun h => absurd h.2 (by decide))).trans ((u102.2 63 36 (fun h => absurd h.1 (by decide))).trans ((u93.2 63 36 (fun h => absurd h.1 (by decide))).trans ((u84.2 63 36 (fun h => absurd h.1 (by decide))).trans ((u75.2 63 36 (fun h => absurd h.1 (by decide))).trans ((u66.2 63 36 (fun h => absurd h.1 (by decide))).trans ((u57.2 63 36 (fun h => absurd h.1 (by decide))).trans u48.1))))))).trans hv14, hb14.1, hb14.2, (KBt.u (KBt.u1 (KBt.u1 (KBt.u1 (KBt.u1 (KBt.u1 (KBt.u1 (KBt.u (KBt.u (KBt.u (KBt.u (KBt.u (KBt.u (KBt.refl (b := M 63 14) (M := M)) u2 (by decide)) u11 (by decide)) u20 (by decide)) u29 (by decide)) u38 (by decide)) u48 (by decide)) u57 (by decide) ⟨by omega, by omega⟩ hb14.1) u66 (by decide) ⟨by omega, by omega⟩ hb14.1) u75 (by decide) ⟨by omega, by omega⟩ hb14.1) u84 (by decide) ⟨by omega, by omega⟩ hb14.1) u93 (by decide) ⟨by omega, by omega⟩ hb14.1) u102 (by decide) ⟨by omega, by omega⟩ hb14.1) u111 (by decide))⟩
  have hrs : RSD M111 D0 := RSD.init hDC (by rw [((u111.2 63 36 (fun h => absurd h.2 (by decide))).trans ((u102.2 63 36 (fun h => absurd h.1 (by decide))).trans ((u93.2 63 36 (fun h => absurd h.1 (by decide))).trans ((u84.2 63 36 (fun h => absurd h.1 (by decide))).trans ((u75.2 63 36 (fun h => absurd h.1 (by decide))).trans ((u66.2 63 36 (fun h => absurd h.1 (by decide))).trans ((u57.2 63 36 (fun h => absurd h.1 (by decide))).trans u48.1)))))))]; exact ((u111.2 65 _ (fun h => absurd h.1 (by decide))).trans ((u102.2 65 _ (fun h => absurd h.1 (by decide))).trans ((u93.2 65 _ (fun h => absurd h.1 (by decide))).trans ((u84.2 65 _ (fun h => absurd h.1 (by decide))).trans ((u75.2 65 _ (fun h => absurd h.1 (by decide))).trans ((u66.2 65 _ (fun h => absurd h.1 (by decide))).trans u57.1))))))) (by rw [((u111.2 63 36 (fun h => absurd h.2 (by decide))).trans ((u102.2 63 36 (fun h => absurd h.1 (by decide))).trans ((u93.2 63 36 (fun h => absurd h.1 (by decide))).trans ((u84.2 63 36 (fun h => absurd h.1 (by decide))).trans ((u75.2 63 36 (fun h => absurd h.1 (by decide))).trans ((u66.2 63 36 (fun h => absurd h.1 (by decide))).trans ((u57.2 63 36 (fun h => absurd h.1 (by decide))).trans u48.1)))))))]; exact ((u111.2 69 _ (fun h => absurd h.1 (by decide))).trans ((u102.2 69 _ (fun h => absurd h.1 (by decide))).trans ((u93.2 69 _ (fun h => absurd h.1 (by decide))).trans ((u84.2 69 _ (fun h => absurd h.1 (by decide))).trans ((u75.2 69 _ (fun h => absurd h.1 (by decide))).trans u66.1)))))) (by rw [((u111.2 63 36 (fun h => absurd h.2 (by decide))).trans ((u102.2 63 36 (fun h => absurd h.1 (by decide))).trans ((u93.2 63 36 (fun h => absurd h.1 (by decide))).trans ((u84.2 63 36 (fun h => absurd h.1 (by decide))).trans ((u75.2 63 36 (fun h => absurd h.1 (by decide))).trans ((u66.2 63 36 (fun h => absurd h.1 (by decide))).trans ((u57.2 63 36 (fun h => absurd h.1 (by decide))).trans u48.1)))))))]; exact ((u111.2 79 _ (fun h => absurd h.1 (by decide))).trans ((u102.2 79 _ (fun h => absurd h.1 (by decide))).trans ((u93.2 79 _ (fun h => absurd h.1 (by decide))).trans ((u84.2 79 _ (fun h => absurd h.1 (by decide))).trans u75.1))))) (by rw [((u111.2 63 36 (fun h => absurd h.2 (by decide))).trans ((u102.2 63 36 (fun h => absurd h.1 (by decide))).trans ((u93.2 63 36 (fun h => absurd h.1 (by decide))).trans ((u84.2 63 36 (fun h => absurd h.1 (by decide))).trans ((u75.2 63 36 (fun h => absurd h.1 (by decide))).trans ((u66.2 63 36 (fun h => absurd h.1 (by decide))).trans ((u57.2 63 36 (fun h => absurd h.1 (by decide))).trans u48.1)))))))]; exact ((u111.2 80 _ (fun h => absurd h.1 (by decide))).trans ((u102.2 80 _ (fun h => absurd h.1 (by decide))).trans ((u93.2 80 _ (fun h => absurd h.1 (by decide))).trans u84.1)))) (by rw [((u111.2 63 36 (fun h => absurd h.2 (by decide))).trans ((u102.2 63 36 (fun h => absurd h.1 (by decide))).trans ((u93.2 63 36 (fun h => absurd h.1 (by decide))).trans ((u84.2 63 36 (fun h => absurd h.1 (by decide))).trans ((u75.2 63 36 (fun h => absurd h.1 (by decide))).trans ((u66.2 63 36 (fun h => absurd h.1 (by decide))).trans ((u57.2 63 36 (fun h => absurd h.1 (by decide))).trans u48.1)))))))]; exact ((u111.2 75 _ (fun h => absurd h.1 (by decide))).trans ((u102.2 75 _ (fun h => absurd h.1 (by decide))).trans u93.1))) (by rw [((u111.2 63 36 (fun h => absurd h.2 (by decide))).trans ((u102.2 63 36 (fun h => absurd h.1 (by decide))).trans ((u93.2 63 36 (fun h => absurd h.1 (by decide))).trans ((u84.2 63 36 (fun h => absurd h.1 (by decide))).trans ((u75.2 63 36 (fun h => absurd h.1 (by decide))).trans ((u66.2 63 36 (fun h => absurd h.1 (by decide))).trans ((u57.2 63 36 (fun h => absurd h.1 (by decide))).trans u48.1)))))))]; exact ((u111.2 77 _ (fun h => absurd h.1 (by decide))).trans u102.1))
  have h64s : M111 64 = s := (funext fun i => ((u111.2 64 _ (fun h => absurd h.1 (by decide))).trans ((u102.2 64 _ (fun h => absurd h.1 (by decide))).trans ((u93.2 64 _ (fun h => absurd h.1 (by decide))).trans ((u84.2 64 _ (fun h => absurd h.1 (by decide))).trans ((u75.2 64 _ (fun h => absurd h.1 (by decide))).trans ((u66.2 64 _ (fun h => absurd h.1 (by decide))).trans ((u57.2 64 _ (fun h => absurd h.1 (by decide))).trans ((u48.2 64 _ (fun h => absurd h.1 (by decide))).trans ((u38.2 64 _ (fun h => absurd h.1 (by decide))).trans ((u29.2 64 _ (fun h => absurd h.1 (by decide))).trans ((u20.2 64 _ (fun h => absurd h.1 (by decide))).trans ((u11.2 64 _ (fun h => absurd h.1 (by decide))).trans (u2.2 64 _ (fun h => absurd h.1 (by decide)))))))))))))))).trans hs
  have h63n : M111 63 2 = n := by have := ((u111.2 63 2 (fun h => absurd h.2 (by decide))).trans ((u102.2 63 2 (fun h => absurd h.1 (by decide))).trans ((u93.2 63 2 (fun h => absurd h.1 (by decide))).trans ((u84.2 63 2 (fun h => absurd h.1 (by decide))).trans ((u75.2 63 2 (fun h => absurd h.1 (by decide))).trans ((u66.2 63 2 (fun h => absurd h.1 (by decide))).trans ((u57.2 63 2 (fun h => absurd h.1 (by decide))).trans ((u48.2 63 2 (fun h => absurd h.2 (by decide))).trans ((u38.2 63 2 (fun h => absurd h.2 (by decide))).trans ((u29.2 63 2 (fun h => absurd h.2 (by decide))).trans ((u20.2 63 2 (fun h => absurd h.2 (by decide))).trans ((u11.2 63 2 (fun h => absurd h.2 (by decide))).trans u2.1)))))))))))); omega
  have h63e : M111 63 5 = 0 := ((u111.2 63 5 (fun h => absurd h.2 (by decide))).trans ((u102.2 63 5 (fun h => absurd h.1 (by decide))).trans ((u93.2 63 5 (fun h => absurd h.1 (by decide))).trans ((u84.2 63 5 (fun h => absurd h.1 (by decide))).trans ((u75.2 63 5 (fun h => absurd h.1 (by decide))).trans ((u66.2 63 5 (fun h => absurd h.1 (by decide))).trans ((u57.2 63 5 (fun h => absurd h.1 (by decide))).trans ((u48.2 63 5 (fun h => absurd h.2 (by decide))).trans ((u38.2 63 5 (fun h => absurd h.2 (by decide))).trans ((u29.2 63 5 (fun h => absurd h.2 (by decide))).trans u20.1))))))))))
  have h63t : M111 63 10 = -1 := ((u111.2 63 10 (fun h => absurd h.2 (by decide))).trans ((u102.2 63 10 (fun h => absurd h.1 (by decide))).trans ((u93.2 63 10 (fun h => absurd h.1 (by decide))).trans ((u84.2 63 10 (fun h => absurd h.1 (by decide))).trans ((u75.2 63 10 (fun h => absurd h.1 (by decide))).trans ((u66.2 63 10 (fun h => absurd h.1 (by decide))).trans ((u57.2 63 10 (fun h => absurd h.1 (by decide))).trans ((u48.2 63 10 (fun h => absurd h.2 (by decide))).trans u38.1))))))))
  refine s_aload_n kx_216_105 rfl ?_
  refine s_callV2 (k := 63) (s1 := 1) (s2 := 0) (as := []) (rest := []) kx_216_106 kp_216_286 (Or.inl rfl) rfl (tk_63 hT) ki_180 kcl_180 rfl rfl (by decide) (f_180 (d := d + 5) hT hI111 h64s h63n h63e (Int.le_refl 0) hn0 h63t) (kV (fun M124 hI124 fr124 v123p => ?_))
  have hFm124 := hFm111.call fr124 rfl
  have tr125 := (fr124 63 9 rfl)
  have tr126 := (fr124 63 35 rfl)
  have tr127 := (fr124 63 36 rfl)
  have tr128 := (fr124 63 14 rfl)
  have tr129 := (fr124 63 10 rfl)
  have tr130 := rg_63_9 hI124
  have tr131 := rg_63_4 hI124
  have hI109 : TwI M124 s n (1 - M 63 14) 0 fR NR D' := Or.inr ⟨((fr124 63 9 rfl).trans ((u111.2 63 9 (fun h => absurd h.2 (by decide))).trans ((u102.2 63 9 (fun h => absurd h.1 (by decide))).trans ((u93.2 63 9 (fun h => absurd h.1 (by decide))).trans ((u84.2 63 9 (fun h => absurd h.1 (by decide))).trans ((u75.2 63 9 (fun h => absurd h.1 (by decide))).trans ((u66.2 63 9 (fun h => absurd h.1 (by decide))).trans ((u57.2 63 9 (fun h => absurd h.1 (by decide))).trans ((u48.2 63 9 (fun h => absurd h.2 (by decide))).trans ((u38.2 63 9 (fun h => absurd h.2 (by decide))).trans u29.1)))))))))), D0, 0, v123p.1, ⟨(RSD.fr hrs fr124 rfl), CDR.init hDC⟩, hDC.dw, fun g => by omega, hrd0⟩
  have key134 : ∀ n135 : Nat, ∀ (x1_132 : Int), ∀ M133 : cM, Rng M133 → Fr gS_216_m M M133 → Fr gS_216_l109 M124 M133 → (0 ≤ x1_132) → (x1_132 ≤ 80) → (KB (M 63 14) M M133) → (LXp M133) → (OB M M133) → (M133 63 36 = 1 - M 63 14) → (1 ≤ M133 63 9 ∨ (TSg M133 ∧ M133 63 35 ≤ M133 63 4)) → (TwI M133 s n (1 - M 63 14) x1_132 fR NR D') → (2 * (1600 - M133 63 4) + 6 - M133 63 9).toNat < n135 → cP k_P xs Ln (d + 7) 216 109 [(0, rf 63), (1, (0, x1_132))] [] (T, M133) (qW T M gS_216_m 0 (fun v M1 => M1 63 1 = 0 ∧ Sg M1 ∧ TwY M M1 fR NR v D')) := by
    intro n135
    induction n135 with
    | zero => intro x1_132 M133 hI133 hFm133 fl133 i136 i137 i138 i139 i140 i141 i142 i143 hm144; exact absurd hm144 (Nat.not_lt_zero _)
    | succ n135 ih145 =>
      intro x1_132 M133 hI133 hFm133 fl133 i136 i137 i138 i139 i140 i141 i142 i143 hm144
      have tr146 := rg_63_9 hI133
      have tr147 := rg_63_4 hI133
      have tr148 : M133 63 14 = M 63 14 := ((fl133 63 14 rfl).trans ((fr124 63 14 rfl).trans ((u111.2 63 14 (fun h => absurd h.2 (by decide))).trans ((u102.2 63 14 (fun h => absurd h.1 (by decide))).trans ((u93.2 63 14 (fun h => absurd h.1 (by decide))).trans ((u84.2 63 14 (fun h => absurd h.1 (by decide))).trans ((u75.2 63 14 (fun h => absurd h.1 (by decide))).trans ((u66.2 63 14 (fun h => absurd h.1 (by decide))).trans ((u57.2 63 14 (fun h => absurd h.1 (by decide))).trans ((u48.2 63 14 (fun h => absurd h.2 (by decide))).trans ((u38.2 63 14 (fun h => absurd h.2 (by decide))).trans ((u29.2 63 14 (fun h => absurd h.2 (by decide))).trans ((u20.2 63 14 (fun h => absurd h.2 (by decide))).trans ((u11.2 63 14 (fun h => absurd h.2 (by decide))).trans (u2.2 63 14 (fun h => absurd h.2 (by decide)))))))))))))))))
      refine s_aload_n kx_216_109 rfl ?_
      refine r_getI (k := 63) (f := 9) kx_216_110 kp_216_39 (tk_63 hT) kf_12_9 (fun _ => rfl) (rg_63_9 hI133) (fun v149 v149e v149a v149b => ?_)
      refine s_if_ne (t := 138) kx_216_113 (by decide) (fun hc150 => ?_) (fun hc150 => ?_)
      · have hfl := TwI.f i143 (by omega)
        have hfl0 := hfl.1
        have ⟨hfl1, hfl2, hfl3, hfl4⟩ := hfl.2
        refine s_aload_n kx_216_138 rfl ?_
        refine s_aload_n kx_216_139 rfl ?_
        refine r_getK (k := 63) (f := 9) kx_216_140 kp_216_39 (tk_63 hT) kf_12_9 (fun _ => rfl) v149e ?_
        refine r_put (k := 63) (f := 11) kx_216_143 kp_216_45 (tk_63 hT) kf_12_11 rfl (by decide) (by decide) hI133 ru_63_11 (fun M151 hI151 u151 => ?_)
        have hFm151 := hFm133.up u151 rfl
        have tr152 := (u151.2 63 3 (fun h => absurd h.2 (by decide)))
        have tr153 := (u151.2 63 4 (fun h => absurd h.2 (by decide)))
        have tr154 := (u151.2 63 5 (fun h => absurd h.2 (by decide)))
        have tr155 := (u151.2 63 9 (fun h => absurd h.2 (by decide)))
        have tr156 := (u151.2 63 35 (fun h => absurd h.2 (by decide)))
        have tr157 := (u151.2 63 36 (fun h => absurd h.2 (by decide)))
        have tr158 := (u151.2 63 14 (fun h => absurd h.2 (by decide)))
        have tr159 := (u151.2 63 10 (fun h => absurd h.2 (by decide)))
        refine s_aload_n kx_216_146 rfl ?_
        refine s_aload_n kx_216_147 rfl ?_
        refine r_getU (k := 63) (f := 10) kx_216_148 kp_216_42 (tk_63 hT) kf_12_10 (fun _ => rfl) (fun v160 v160e => ?_)
        refine r_put (k := 63) (f := 12) kx_216_151 kp_216_48 (tk_63 hT) kf_12_12 rfl (by decide) (by decide) hI151 ru_63_12 (fun M161 hI161 u161 => ?_)
        have hFm161 := hFm151.up u161 rfl
        have tr162 := (u161.2 63 3 (fun h => absurd h.2 (by decide)))
        have tr163 := (u161.2 63 4 (fun h => absurd h.2 (by decide)))
        have tr164 := (u161.2 63 5 (fun h => absurd h.2 (by decide)))
        have tr165 := (u161.2 63 9 (fun h => absurd h.2 (by decide)))
        have tr166 := (u161.2 63 35 (fun h => absurd h.2 (by decide)))
        have tr167 := (u161.2 63 36 (fun h => absurd h.2 (by decide)))
        have tr168 := (u161.2 63 14 (fun h => absurd h.2 (by decide)))
        have tr169 := (u161.2 63 10 (fun h => absurd h.2 (by decide)))
        refine s_aload_n kx_216_154 rfl ?_
        refine r_getK (k := 63) (f := 9) kx_216_155 kp_216_39 (tk_63 hT) kf_12_9 (fun _ => rfl) ((u161.2 63 9 (fun h => absurd h.2 (by decide))).trans ((u151.2 63 9 (fun h => absurd h.2 (by decide))).trans v149e)) ?_
        refine s_if_le (t := 167) kx_216_158 (by decide) (fun hc170 => absurd hc170 (by omega)) (fun hc170 => ?_)
        refine s_aload_n kx_216_161 rfl ?_
        refine s_iconst (v := 1) kx_216_162 (by decide) ?_
        refine s_callV2 (k := 63) (s1 := 2) (s2 := 0) (as := [(0, 1)]) (rest := []) kx_216_163 kp_216_255 (Or.inl rfl) rfl (tk_63 hT) ki_218 kcl_218 rfl rfl (by decide) (m_218 (d := d + 6) (kind := 1) hT hI161 (by omega)) (kW (fun v171 M172 hI172 fr172 v171p => ?_))
        have hFm172 := hFm161.call fr172 rfl
        have tr173 := (fr172 63 3 rfl)
        have tr174 := (fr172 63 4 rfl)
        have tr175 := (fr172 63 5 rfl)
        have tr176 := (fr172 63 9 rfl)
        have tr177 := (fr172 63 35 rfl)
        have tr178 := (fr172 63 36 rfl)
        have tr179 := (fr172 63 14 rfl)
        have tr180 := (fr172 63 10 rfl)
        have tr181 := rg_63_9 hI172
        have tr182 := rg_63_4 hI172
        exact s_iret kx_216_166 (Or.inl kq_216) ⟨_, _, rfl, rfl, hI172, hFm172, ⟨((fr172 63 1 rfl).trans ((u161.2 63 1 (fun h => absurd h.2 (by decide))).trans ((u151.2 63 1 (fun h => absurd h.2 (by decide))).trans ((fl133 63 1 rfl).trans ((fr124 63 1 rfl).trans ((u111.2 63 1 (fun h => absurd h.2 (by decide))).trans ((u102.2 63 1 (fun h => absurd h.1 (by decide))).trans ((u93.2 63 1 (fun h => absurd h.1 (by decide))).trans ((u84.2 63 1 (fun h => absurd h.1 (by decide))).trans ((u75.2 63 1 (fun h => absurd h.1 (by decide))).trans ((u66.2 63 1 (fun h => absurd h.1 (by decide))).trans ((u57.2 63 1 (fun h => absurd h.1 (by decide))).trans ((u48.2 63 1 (fun h => absurd h.2 (by decide))).trans ((u38.2 63 1 (fun h => absurd h.2 (by decide))).trans ((u29.2 63 1 (fun h => absurd h.2 (by decide))).trans ((u20.2 63 1 (fun h => absurd h.2 (by decide))).trans u11.1)))))))))))))))), Sg.ob hS hb14.1 (OB.fr (OB.up (OB.up i140 u151 (by decide) (Or.inr (by decide))) u161 (by decide) (Or.inr (by decide))) fr172 rfl), ((fun z => Or.inl ⟨z.1, z.2.1, z.2.2.1, z.2.2.2.1, z.2.2.2.2.1, z.2.2.2.2.2, ((fr172 63 14 rfl).trans ((u161.2 63 14 (fun h => absurd h.2 (by decide))).trans ((u151.2 63 14 (fun h => absurd h.2 (by decide))).trans ((fl133 63 14 rfl).trans ((fr124 63 14 rfl).trans ((u111.2 63 14 (fun h => absurd h.2 (by decide))).trans ((u102.2 63 14 (fun h => absurd h.1 (by decide))).trans ((u93.2 63 14 (fun h => absurd h.1 (by decide))).trans ((u84.2 63 14 (fun h => absurd h.1 (by decide))).trans ((u75.2 63 14 (fun h => absurd h.1 (by decide))).trans ((u66.2 63 14 (fun h => absurd h.1 (by decide))).trans ((u57.2 63 14 (fun h => absurd h.1 (by decide))).trans ((u48.2 63 14 (fun h => absurd h.2 (by decide))).trans ((u38.2 63 14 (fun h => absurd h.2 (by decide))).trans ((u29.2 63 14 (fun h => absurd h.2 (by decide))).trans ((u20.2 63 14 (fun h => absurd h.2 (by decide))).trans ((u11.2 63 14 (fun h => absurd h.2 (by decide))).trans (u2.2 63 14 (fun h => absurd h.2 (by decide)))))))))))))))))))), ((KB.fr (KB.up0 (KB.up0 i138 u151 (by decide)) u161 (by decide)) fr172 rfl)).2.2.2⟩) (tw_y1 (M1 := M172) hfl v149e ((((fr172 63 10 rfl).trans ((u161.2 63 10 (fun h => absurd h.2 (by decide))).trans (u151.2 63 10 (fun h => absurd h.2 (by decide)))))).symm.trans ((fr172 63 10 rfl).trans ((u161.2 63 10 (fun h => absurd h.2 (by decide))).trans v160e))) ((fr172 63 11 rfl).trans ((u161.2 63 11 (fun h => absurd h.2 (by decide))).trans u151.1)) ((fr172 63 12 rfl).trans u161.1) (Int.le_antisymm v171p.2 v171p.1)))⟩⟩
      · refine s_aload_n kx_216_116 rfl ?_
        refine r_getI (k := 63) (f := 3) kx_216_117 kp_216_20 (tk_63 hT) kf_12_3 (fun _ => rfl) (rg_63_3 hI133) (fun v183 v183e v183a v183b => ?_)
        refine s_if_eq (t := 138) kx_216_120 (by decide) (fun hc184 => ?_) (fun hc184 => ?_)
        · have hze := TwI.e i143 (by omega) (by omega) (by omega)
          have hze1 := hze.1
          have hze2 := hze.2.1
          have hze3 := hze.2.2.1
          refine s_aload_n kx_216_138 rfl ?_
          refine s_aload_n kx_216_139 rfl ?_
          refine r_getK (k := 63) (f := 9) kx_216_140 kp_216_39 (tk_63 hT) kf_12_9 (fun _ => rfl) v149e ?_
          refine r_put (k := 63) (f := 11) kx_216_143 kp_216_45 (tk_63 hT) kf_12_11 rfl (by decide) (by decide) hI133 ru_63_11 (fun M185 hI185 u185 => ?_)
          have hFm185 := hFm133.up u185 rfl
          have tr186 := (u185.2 63 3 (fun h => absurd h.2 (by decide)))
          have tr187 := (u185.2 63 4 (fun h => absurd h.2 (by decide)))
          have tr188 := (u185.2 63 5 (fun h => absurd h.2 (by decide)))
          have tr189 := (u185.2 63 9 (fun h => absurd h.2 (by decide)))
          have tr190 := (u185.2 63 35 (fun h => absurd h.2 (by decide)))
          have tr191 := (u185.2 63 36 (fun h => absurd h.2 (by decide)))
          have tr192 := (u185.2 63 14 (fun h => absurd h.2 (by decide)))
          have tr193 := (u185.2 63 10 (fun h => absurd h.2 (by decide)))
          refine s_aload_n kx_216_146 rfl ?_
          refine s_aload_n kx_216_147 rfl ?_
          refine r_getU (k := 63) (f := 10) kx_216_148 kp_216_42 (tk_63 hT) kf_12_10 (fun _ => rfl) (fun v194 v194e => ?_)
          refine r_put (k := 63) (f := 12) kx_216_151 kp_216_48 (tk_63 hT) kf_12_12 rfl (by decide) (by decide) hI185 ru_63_12 (fun M195 hI195 u195 => ?_)
          have hFm195 := hFm185.up u195 rfl
          have tr196 := (u195.2 63 3 (fun h => absurd h.2 (by decide)))
          have tr197 := (u195.2 63 4 (fun h => absurd h.2 (by decide)))
          have tr198 := (u195.2 63 5 (fun h => absurd h.2 (by decide)))
          have tr199 := (u195.2 63 9 (fun h => absurd h.2 (by decide)))
          have tr200 := (u195.2 63 35 (fun h => absurd h.2 (by decide)))
          have tr201 := (u195.2 63 36 (fun h => absurd h.2 (by decide)))
          have tr202 := (u195.2 63 14 (fun h => absurd h.2 (by decide)))
          have tr203 := (u195.2 63 10 (fun h => absurd h.2 (by decide)))
          refine s_aload_n kx_216_154 rfl ?_
          refine r_getK (k := 63) (f := 9) kx_216_155 kp_216_39 (tk_63 hT) kf_12_9 (fun _ => rfl) ((u195.2 63 9 (fun h => absurd h.2 (by decide))).trans ((u185.2 63 9 (fun h => absurd h.2 (by decide))).trans v149e)) ?_
          refine s_if_le (t := 167) kx_216_158 (by decide) (fun hc204 => ?_) (fun hc204 => absurd hc204 (by omega))
          refine s_aload_n kx_216_167 rfl ?_
          refine s_aload_n kx_216_168 rfl ?_
          refine r_getK (k := 63) (f := 36) kx_216_169 kp_216_121 (tk_63 hT) kf_12_36 (fun _ => rfl) ((u195.2 63 36 (fun h => absurd h.2 (by decide))).trans ((u185.2 63 36 (fun h => absurd h.2 (by decide))).trans ((fl133 63 36 rfl).trans ((fr124 63 36 rfl).trans ((u111.2 63 36 (fun h => absurd h.2 (by decide))).trans ((u102.2 63 36 (fun h => absurd h.1 (by decide))).trans ((u93.2 63 36 (fun h => absurd h.1 (by decide))).trans ((u84.2 63 36 (fun h => absurd h.1 (by decide))).trans ((u75.2 63 36 (fun h => absurd h.1 (by decide))).trans ((u66.2 63 36 (fun h => absurd h.1 (by decide))).trans ((u57.2 63 36 (fun h => absurd h.1 (by decide))).trans u48.1))))))))))) ?_
          refine r_put (k := 63) (f := 14) kx_216_172 kp_216_54 (tk_63 hT) kf_12_14 rfl (by decide) (by decide) hI195 (ru_63_14 (by omega) (by omega)) (fun M205 hI205 u205 => ?_)
          have hFm205 := hFm195.up u205 rfl
          have tr206 := (u205.2 63 3 (fun h => absurd h.2 (by decide)))
          have tr207 := (u205.2 63 4 (fun h => absurd h.2 (by decide)))
          have tr208 := (u205.2 63 5 (fun h => absurd h.2 (by decide)))
          have tr209 := (u205.2 63 9 (fun h => absurd h.2 (by decide)))
          have tr210 := (u205.2 63 35 (fun h => absurd h.2 (by decide)))
          have tr211 := (u205.2 63 36 (fun h => absurd h.2 (by decide)))
          have tr212 := u205.1
          have tr213 := (u205.2 63 10 (fun h => absurd h.2 (by decide)))
          have hsg := TSg.sg (TSg.fr (TSg.fr (Or.resolve_left i142 (by omega)).1 (rg_63_36 hI133).1 (Up.fr u185) rfl) (rg_63_36 hI185).1 (Up.fr u195) rfl) (rg_63_35 hI195).2 ((u195.2 63 36 (fun h => absurd h.2 (by decide))).trans ((u185.2 63 36 (fun h => absurd h.2 (by decide))).trans ((fl133 63 36 rfl).trans ((fr124 63 36 rfl).trans ((u111.2 63 36 (fun h => absurd h.2 (by decide))).trans ((u102.2 63 36 (fun h => absurd h.1 (by decide))).trans ((u93.2 63 36 (fun h => absurd h.1 (by decide))).trans ((u84.2 63 36 (fun h => absurd h.1 (by decide))).trans ((u75.2 63 36 (fun h => absurd h.1 (by decide))).trans ((u66.2 63 36 (fun h => absurd h.1 (by decide))).trans ((u57.2 63 36 (fun h => absurd h.1 (by decide))).trans u48.1))))))))))) u205
          refine s_aload_n kx_216_175 rfl ?_
          refine s_callV2 (k := 63) (s1 := 1) (s2 := 0) (as := []) (rest := []) kx_216_176 kp_216_446 (Or.inl rfl) rfl (tk_63 hT) ki_225 kcl_225 rfl rfl (by decide) (m_225 (d := d + 6) hT hI205) (kV (fun M215 hI215 fr215 v214p => ?_))
          have hFm215 := hFm205.call fr215 rfl
          have tr216 := (fr215 63 3 rfl)
          have tr217 := (fr215 63 4 rfl)
          have tr218 := (fr215 63 5 rfl)
          have tr219 := (fr215 63 9 rfl)
          have tr220 := (fr215 63 35 rfl)
          have tr221 := (fr215 63 36 rfl)
          have tr222 := (fr215 63 14 rfl)
          have tr223 := (fr215 63 10 rfl)
          have tr224 := rg_63_9 hI215
          have tr225 := rg_63_4 hI215
          refine s_iload_n kx_216_179 rfl ?_
          exact s_iret kx_216_180 (Or.inl kq_216) ⟨_, _, rfl, rfl, hI215, hFm215, ⟨((fr215 63 1 rfl).trans ((u205.2 63 1 (fun h => absurd h.2 (by decide))).trans ((u195.2 63 1 (fun h => absurd h.2 (by decide))).trans ((u185.2 63 1 (fun h => absurd h.2 (by decide))).trans ((fl133 63 1 rfl).trans ((fr124 63 1 rfl).trans ((u111.2 63 1 (fun h => absurd h.2 (by decide))).trans ((u102.2 63 1 (fun h => absurd h.1 (by decide))).trans ((u93.2 63 1 (fun h => absurd h.1 (by decide))).trans ((u84.2 63 1 (fun h => absurd h.1 (by decide))).trans ((u75.2 63 1 (fun h => absurd h.1 (by decide))).trans ((u66.2 63 1 (fun h => absurd h.1 (by decide))).trans ((u57.2 63 1 (fun h => absurd h.1 (by decide))).trans ((u48.2 63 1 (fun h => absurd h.2 (by decide))).trans ((u38.2 63 1 (fun h => absurd h.2 (by decide))).trans ((u29.2 63 1 (fun h => absurd h.2 (by decide))).trans ((u20.2 63 1 (fun h => absurd h.2 (by decide))).trans u11.1))))))))))))))))), (Sg.fr hsg fr215 rfl), ((fun z => Or.inr ⟨z.1, z.2.1, z.2.2.1, z.2.2.2.1, z.2.2.2.2.1, z.2.2.2.2.2.1, z.2.2.2.2.2.2, (RSD.fr (RSD.up (RSD.up (RSD.up hze.2.2.2.1 u185 (by decide)) u195 (by decide)) u205 (by decide)) fr215 rfl), (CDR.fr (CDR.up (CDR.up (CDR.up hze.2.2.2.2 u185 (by decide)) u195 (by decide)) u205 (by decide)) fr215 rfl)⟩) (tw_y2 (M := M) (M1 := M215) hze.1 hze.2.1 i136 v149e hc150 ((((fr215 63 10 rfl).trans ((u205.2 63 10 (fun h => absurd h.2 (by decide))).trans ((u195.2 63 10 (fun h => absurd h.2 (by decide))).trans (u185.2 63 10 (fun h => absurd h.2 (by decide))))))).symm.trans ((fr215 63 10 rfl).trans ((u205.2 63 10 (fun h => absurd h.2 (by decide))).trans ((u195.2 63 10 (fun h => absurd h.2 (by decide))).trans v194e)))) hze.2.2.1 ((fr215 63 11 rfl).trans ((u205.2 63 11 (fun h => absurd h.2 (by decide))).trans ((u195.2 63 11 (fun h => absurd h.2 (by decide))).trans u185.1))) ((fr215 63 12 rfl).trans ((u205.2 63 12 (fun h => absurd h.2 (by decide))).trans u195.1)) ((fr215 63 14 rfl).trans u205.1) v47z ((fr215 63 36 rfl).trans ((u205.2 63 36 (fun h => absurd h.2 (by decide))).trans ((u195.2 63 36 (fun h => absurd h.2 (by decide))).trans ((u185.2 63 36 (fun h => absurd h.2 (by decide))).trans ((fl133 63 36 rfl).trans ((fr124 63 36 rfl).trans ((u111.2 63 36 (fun h => absurd h.2 (by decide))).trans ((u102.2 63 36 (fun h => absurd h.1 (by decide))).trans ((u93.2 63 36 (fun h => absurd h.1 (by decide))).trans ((u84.2 63 36 (fun h => absurd h.1 (by decide))).trans ((u75.2 63 36 (fun h => absurd h.1 (by decide))).trans ((u66.2 63 36 (fun h => absurd h.1 (by decide))).trans ((u57.2 63 36 (fun h => absurd h.1 (by decide))).trans u48.1)))))))))))))))⟩⟩
        · have hti226 := Or.resolve_left i142 (by omega)
          have hti226b := hti226.2
          obtain ⟨D, q, hly, ⟨hR, hCD⟩, hW, hk80, hrd⟩ := TwI.z i143 (by omega)
          have hkk := hly.kinds
          have hK0 : owK s n q ≠ 0 := by omega
          clear hkk
          have hk79 : x1_132 ≠ 80 := fun g => hK0 (hk80 g)
          have hys : Yst M133 s n 0 q := Or.inr ⟨rfl, by omega, hly⟩
          rw [show (81 - x1_132).toNat = (80 - x1_132).toNat + 1 by omega] at hrd
          refine s_aload_n kx_216_123 rfl ?_
          refine s_callV2 (k := 63) (s1 := 1) (s2 := 0) (as := []) (rest := []) kx_216_124 kp_216_440 (Or.inl rfl) rfl (tk_63 hT) ki_214 kcl_214 rfl rfl (by decide) (f_214 (d := d) hT hI133 i139 hys hn hR hW hti226.1 (by omega) hCD  i138 (by omega)) (kV (fun M228 hI228 fr228 v227p => ?_))
          have hFm228 := hFm133.call fr228 rfl
          have hFl109228 := fl133.call fr228 rfl
          have tr229 := (fr228 63 36 rfl)
          have tr230 := (fr228 63 14 rfl)
          have tr231 := rg_63_9 hI228
          have tr232 := rg_63_4 hI228
          have v227pk := v227p.2
          (replace v227p := v227p.1)
          have hob233 := OB.ko i140 hb14 (by omega) v227p.2.2.2.1.2 (fr228 63 14 rfl)
          have hsl := v227p.2.2.2.1.1
          obtain ⟨f2, q2, hY2, hc2⟩ := tw_mid ⟨hly.2.2.1, hly.2.2.2.1⟩ v227p.2.2.2.2 hK0 hk79 hrd
          refine r_iinc kx_216_127 rfl km_216_1 (by decide) ⟨by omega, by omega⟩ rfl ?_
          refine s_aload_n kx_216_130 rfl ?_
          refine s_iload_n kx_216_131 rfl ?_
          refine s_callV2 (k := 63) (s1 := 2) (s2 := 0) (as := [(0, (x1_132 + 1))]) (rest := []) kx_216_132 kp_216_443 (Or.inl rfl) rfl (tk_63 hT) ki_215 kcl_215 rfl rfl (by decide) (f_215 (d := d + 3) (m_ := (x1_132 + 1)) hT hI228 v227p.1 hY2 hn) (kV (fun M235 hI235 fr235 v234p => ?_))
          have hFm235 := hFm228.call fr235 rfl
          have hFl109235 := hFl109228.call fr235 rfl
          have tr236 := (fr235 63 35 rfl)
          have tr237 := (fr235 63 36 rfl)
          have tr238 := (fr235 63 14 rfl)
          have tr239 := rg_63_9 hI235
          have tr240 := rg_63_4 hI235
          have hfi := v234p.2.2.2.1
          refine s_goto (t := 109) kx_216_135 (by decide) ?_
          have hme := tw_me hsl hfi v234p.2.2.1 v234p.2.1 v227p.2.1 (rg_63_4 hI235) (rg_63_9 hI235) (by omega) hm144
          exact cP.wk (lS1 rfl (lS1 rfl lS0)) (ih145 (x1_132 + 1) M235 hI235 hFm235 hFl109235 (by omega) (by omega) (KB.fr v227pk fr235 rfl) v234p.1 (OB.fr hob233 fr235 rfl) (by omega) (tw_ms hsl hfi v234p.2.2.1 v234p.2.1 (fr235 63 35 rfl) (fun z => TSg.fr z (rg_63_36 hI228).1 fr235 rfl)) (tw_back v234p.2.2.2.2 (fun g => hY2.q0 g) hc2 (fun D2 h2 => ⟨RSD.fr h2.1 fr235 rfl, CDR.fr h2.2 fr235 rfl⟩) ⟨by omega, by omega⟩) hme)
  exact cP.wk (lS1 rfl (lS1 rfl lS0)) (key134 _ 0 M124 hI124 hFm124 Fr.refl (by omega) (by omega) (KB.fr hkb0 fr124 rfl) (show LXp M124 from v123p.2.2) (OB.fr (OB.up (OB.up (OB.up (OB.up (OB.up (OB.up (OB.up (OB.up (OB.up (OB.up (OB.up (OB.up (OB.up (OB.refl (M := M)) u2 (by decide) (Or.inr (by decide))) u11 (by decide) (Or.inr (by decide))) u20 (by decide) (Or.inr (by decide))) u29 (by decide) (Or.inr (by decide))) u38 (by decide) (Or.inr (by decide))) u48 (by decide) (Or.inr (by decide))) u57 ⟨by decide, Or.inl (by decide)⟩ (Or.inr (by decide))) u66 ⟨by decide, Or.inl (by decide)⟩ (Or.inr (by decide))) u75 ⟨by decide, Or.inl (by decide)⟩ (Or.inr (by decide))) u84 ⟨by decide, Or.inl (by decide)⟩ (Or.inr (by decide))) u93 ⟨by decide, Or.inl (by decide)⟩ (Or.inl (by omega))) u102 ⟨by decide, Or.inl (by decide)⟩ (Or.inl (by omega))) u111 (by decide) (Or.inr (by decide))) fr124 rfl) (by omega) (Or.inr ⟨(TSg.fr hts (rg_63_36 hI111).1 fr124 rfl), by omega⟩) hI109 (Nat.lt_succ_self _))
