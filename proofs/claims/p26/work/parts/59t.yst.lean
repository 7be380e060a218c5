/-! slow, stands; statements -/
section YT
variable {M M1 D : cM} {s : Nat → Int} {n p f q : Int}
theorem RsX.up {k g : Nat} {v : Int} (h : RsX M s n p) (u : Up M k g v M1) (hk : k ≠ 64 ∧ k ≠ 63) : RsX M1 s n p := by
  rcases h with ⟨f, h1, h2, h3⟩ | ⟨h9, q, c, h1, h2⟩
  · exact Or.inl ⟨f, h1, h2.up u (by omega), h3⟩
  · exact Or.inr ⟨(u.2 63 9 (by omega)).trans h9, q, c, h1.up u (by omega), h2⟩
theorem RSD.s75 {v i : Int} (h : RSD M D) (hi : M 63 36 = i) (u : Up M 75 i.toNat v M1) (hv : v ≠ -1) : RSD M1 (owFg D 11) := by
  obtain ⟨a1, a2, a3, a4, a5, a6, a7, a8, a9⟩ := h
  have ec : ∀ c, c ≠ 75 → ∀ g, M1 c g = M c g := fun c hc g => u.2 c g (by omega)
  unfold RSD
  rw [ec 63 (by decide), hi]
  rw [hi] at a1 a2 a3 a4 a5 a6 a7 a8 a9
  simp only [ec 65 (by decide), ec 66 (by decide), ec 67 (by decide), ec 69 (by decide), ec 70 (by decide), ec 71 (by decide), ec 72 (by decide), ec 73 (by decide), ec 74 (by decide), ec 77 (by decide), ec 79 (by decide), ec 80 (by decide), ec 83 (by decide), ec 84 (by decide), u.1]
  simp [owFg]
  exact ⟨a1, a2, a3, a4, a5, a6, by omega, a8, a9.of (fun g => ec 68 (by decide) g) (by simp [owFg]) (fun g => by simp [owFg])⟩
theorem RSD.s77 {v i : Int} (h : RSD M D) (hi : M 63 36 = i) (u : Up M 77 i.toNat v M1) (hv : v ≠ -1) : RSD M1 (owFg D 12) := by
  obtain ⟨a1, a2, a3, a4, a5, a6, a7, a8, a9⟩ := h
  have ec : ∀ c, c ≠ 77 → ∀ g, M1 c g = M c g := fun c hc g => u.2 c g (by omega)
  unfold RSD
  rw [ec 63 (by decide), hi]
  rw [hi] at a1 a2 a3 a4 a5 a6 a7 a8 a9
  simp only [ec 65 (by decide), ec 66 (by decide), ec 67 (by decide), ec 69 (by decide), ec 70 (by decide), ec 71 (by decide), ec 72 (by decide), ec 73 (by decide), ec 74 (by decide), ec 75 (by decide), ec 79 (by decide), ec 80 (by decide), ec 83 (by decide), ec 84 (by decide), u.1]
  simp [owFg]
  exact ⟨a1, a2, a3, a4, a5, a6, a7, by omega, a9.of (fun g => ec 68 (by decide) g) (by simp [owFg]) (fun g => by simp [owFg])⟩
end YT
def gS_210_m : List (Nat × Nat) := [(63, 10), (63, 13), (63, 3), (63, 35), (63, 4), (63, 42), (63, 43), (63, 45), (63, 46), (63, 5), (63, 6), (63, 7), (63, 8), (63, 9), (75, 99999), (76, 99999), (81, 99999), (82, 99999), (85, 99999), (86, 99999), (87, 99999), (88, 99999), (89, 99999), (90, 99999)]
theorem f_210 {xs : Nat → Int} {Ln d : Nat} {T : List cK} {M : cM} (hT : TT T) (hI : Rng M) (hX : LXp M) {s : Nat → Int} {n q : Int} {D : cM} (hY : Yst M s n 0 q) (hn : n ≤ 1600) (hR : RSD M D) (hS : TSg M) (p0 : M 63 4 + 1 ≤ M 63 5) (p1 : M 63 35 ≤ M 63 4) : cC k_P xs Ln (d + 5) 210 [rf 63] (T, M) (qV T M gS_210_m (fun M1 => LXp M1 ∧ M 63 4 ≤ M1 63 4 ∧ M 63 9 ≤ M1 63 9 ∧ (SLd M M1 ∧ KO M M1) ∧ ((D 11 0 ≠ 0 ∧ (60000 + owB s n q ≠ 0 ∧ FlY M1 (60000 + owB s n q))) ∨ (D 11 0 = 0 ∧ RsX M1 s n (owE s n q) ∧ (M1 63 9 = 0 → RSD M1 (owFg D 11)))))) := by
  show cP k_P xs Ln (d + 5) 210 0 [(0, rf 63)] [] (T, M) _
  have hFm : Fr gS_210_m M M := Fr.refl
  have h639 := rg_63_9 hI
  have ⟨lx1, lx2⟩ := hX
  have h36 := rg_63_36 hI
  have h35 := rg_63_35 hI
  have hz9 := hY.z.1
  refine s_aload_n kx_210_0 rfl ?_
  refine s_aload_n kx_210_1 rfl ?_
  refine r_getR (k := 63) (f := 25) (k2 := 75) kx_210_2 kp_210_87 (tk_63 hT) kf_12_25 (by decide) (rq_63_25 hI) ?_
  refine s_aload_n kx_210_5 rfl ?_
  refine r_getI (k := 63) (f := 36) kx_210_6 kp_210_121 (tk_63 hT) kf_12_36 (fun _ => rfl) (rg_63_36 hI) (fun v1 v1e v1a v1b => ?_)
  refine r_ald (k := 75) kx_210_9 (tk_75 hT) ⟨by omega, by omega⟩ (rg_75 hI) (fun v2 v2e v2a v2b => ?_)
  refine s_iconst (v := (-1)) kx_210_10 (by decide) ?_
  refine s_icmp_eq (t := 18) kx_210_11 (by decide) (fun hc3 => ?_) (fun hc3 => ?_)
  · refine s_iconst (v := 0) kx_210_18 (by decide) ?_
    refine s_callV2 (k := 63) (s1 := 2) (s2 := 0) (as := [(0, 0)]) (rest := []) kx_210_19 kp_210_386 (Or.inl rfl) rfl (tk_63 hT) ki_199 kcl_199 rfl rfl (by decide) (f_199 (d := d + 2) (full := 0) hT hI hX hY hn (by omega)) (kW (fun v4 M5 hI5 fr5 v4p => ?_))
    have hFm5 := hFm.call fr5 rfl
    have tr6 := (fr5 63 35 rfl)
    have tr7 := (fr5 63 36 rfl)
    have tr8 := rg_63_9 hI5
    refine s_if_ne (t := 26) kx_210_22 (by decide) (fun hc9 => ?_) (fun hc9 => ?_)
    · have hc10 := v4p.2.2.2.resolve_right (by omega)
      have hc10a := hc10.2.1
      refine s_aload_n kx_210_26 rfl ?_
      refine r_getR (k := 63) (f := 25) (k2 := 75) kx_210_27 kp_210_87 (tk_63 hT) kf_12_25 (by decide) (rq_63_25 hI5) ?_
      refine s_aload_n kx_210_30 rfl ?_
      refine r_getK (k := 63) (f := 36) kx_210_31 kp_210_121 (tk_63 hT) kf_12_36 (fun _ => rfl) ((fr5 63 36 rfl).trans v1e) ?_
      refine s_aload_n kx_210_34 rfl ?_
      refine r_getI (k := 63) (f := 35) kx_210_35 kp_210_118 (tk_63 hT) kf_12_35 (fun _ => rfl) (rg_63_35 hI5) (fun v11 v11e v11a v11b => ?_)
      have v11z : M 63 35 = v11 := ((fr5 63 35 rfl)).symm.trans v11e
      have h3612 : M5 63 36 = v1 := ((fr5 63 36 rfl).trans v1e)
      refine r_ast (k := 75) kx_210_38 (tk_75 hT) ⟨by omega, by omega⟩ hI5 (ru_75 (by omega) (by omega)) (fun M13 hI13 u13 => ?_)
      have hFm13 := hFm5.up u13 rfl
      have tr14 := (u13.2 63 3 (by omega))
      have tr15 := (u13.2 63 4 (by omega))
      have tr16 := (u13.2 63 5 (by omega))
      have tr17 := (u13.2 63 9 (by omega))
      have tr18 := (u13.2 63 35 (by omega))
      have tr19 := (u13.2 63 36 (by omega))
      refine s_aload_n kx_210_39 rfl ?_
      refine s_iconst (v := 0) kx_210_40 (by decide) ?_
      refine s_callV2 (k := 63) (s1 := 2) (s2 := 0) (as := [(0, 0)]) (rest := []) kx_210_41 kp_210_410 (Or.inl rfl) rfl (tk_63 hT) ki_198 kcl_198 rfl rfl (by decide) (f_198 (d := d) (test := 0) hT hI13 (LXp.up v4p.1 u13 (Or.inl (by decide))) hn (LyA.up (Yst.z (show Yst M5 s n 0 (owE s n q) from Or.inr ⟨rfl, hc10.2.1.2.2, hc10.2.2⟩)).2 u13 ⟨by decide, Or.inl (by decide)⟩) (by omega) (by omega) (by omega)) (kV (fun M21 hI21 fr21 v20p => ?_))
      have hFm21 := hFm13.call fr21 rfl
      have tr22 := (fr21 63 36 rfl)
      have tr23 := rg_63_9 hI21
      have hOld24 := And.intro v20p.1 (And.intro v20p.2.1 (And.intro v20p.2.2.1 v20p.2.2.2.1))
      have hO25 := KO.rd (KO.up (KO.fr (KO.refl (M := M)) fr5 rfl) u13 (by decide) (Or.inl (by omega))) ((u13.2 63 36 (by omega)).trans (fr5 63 36 rfl)) fr21 rfl hOld24.2.2.2.2
      have hr26 := hOld24.2.2.2.1
      have tr27 := ((fr21 63 36 rfl).trans ((u13.2 63 36 (by omega)).trans (fr5 63 36 rfl)))
      refine s_aload_n kx_210_44 rfl ?_
      refine r_getR (k := 63) (f := 26) (k2 := 76) kx_210_45 kp_210_90 (tk_63 hT) kf_12_26 (by decide) (rq_63_26 hI21) ?_
      refine s_aload_n kx_210_48 rfl ?_
      refine r_getK (k := 63) (f := 36) kx_210_49 kp_210_121 (tk_63 hT) kf_12_36 (fun _ => rfl) ((fr21 63 36 rfl).trans ((u13.2 63 36 (by omega)).trans ((fr5 63 36 rfl).trans v1e))) ?_
      refine s_aload_n kx_210_52 rfl ?_
      refine r_getI (k := 63) (f := 35) kx_210_53 kp_210_118 (tk_63 hT) kf_12_35 (fun _ => rfl) (rg_63_35 hI21) (fun v28 v28e v28a v28b => ?_)
      refine r_ast (k := 76) kx_210_56 (tk_76 hT) ⟨by omega, by omega⟩ hI21 (ru_76 (by omega) (by omega)) (fun M29 hI29 u29 => ?_)
      have hFm29 := hFm21.up u29 rfl
      have tr30 := (u29.2 63 3 (by omega))
      have tr31 := (u29.2 63 4 (by omega))
      have tr32 := (u29.2 63 5 (by omega))
      have tr33 := (u29.2 63 9 (by omega))
      have tr34 := (u29.2 63 35 (by omega))
      have tr35 := (u29.2 63 36 (by omega))
      exact s_vret kx_210_57 kq_210 ⟨_, rfl, rfl, hI29, hFm29, ⟨(LXp.up v20p.1 u29 (Or.inl (by decide))), (by omega), (by omega), ⟨(if h9 : 1 ≤ M29 63 9 then Or.inl h9 else Or.inr ⟨by omega, ⟨(TS_put (x := 75) (y := 76) (z := 77) (w := 78) (by decide) (TSg.fr hS (rg_63_36 hI).1 fr5 rfl).2 ((fr5 63 36 rfl).trans v1e) v11e (by omega) (by omega) u13 fr21 rfl rfl hOld24.2.2.2.1 (by omega) v28e u29).1, (TS_put (x := 75) (y := 76) (z := 77) (w := 78) (by decide) (TSg.fr hS (rg_63_36 hI).1 fr5 rfl).2 ((fr5 63 36 rfl).trans v1e) v11e (by omega) (by omega) u13 fr21 rfl rfl hOld24.2.2.2.1 (by omega) v28e u29).2⟩, by have hq := (Or.resolve_left (show _ ∨ _ from hOld24.2.2.2.1) (by omega)).2.1; omega⟩), (KO.up hO25 u29 (by decide) (Or.inl (by omega)))⟩, (Or.inr ⟨(hR.2.2.2.2.2.2.1).mpr (by rw [v1e]; omega), RsX.up v20p.2.2.2.2 u29 (by decide), fun _ => (RSD.up (RSD.fr (RSD.s75 (RSD.fr hR fr5 rfl) ((fr5 63 36 rfl).trans v1e) u13 (by omega)) fr21 rfl) u29 (by omega))⟩)⟩⟩
    · have hc36 := v4p.2.2.2.resolve_left (by omega)
      have hc36a := hc36.2.1
      exact s_vret kx_210_25 kq_210 ⟨_, rfl, rfl, hI5, hFm5, ⟨v4p.1, (by omega), (by omega), ⟨Or.inl (by omega), (KO.fr (KO.refl (M := M)) fr5 rfl)⟩, (Or.inl ⟨fun z => by have hz := (hR.2.2.2.2.2.2.1).mp z; rw [v1e] at hz; omega, hc36.2.2.1⟩)⟩⟩
  · refine s_iconst (v := 1) kx_210_14 (by decide) ?_
    refine s_goto (t := 19) kx_210_15 (by decide) ?_
    refine s_callV2 (k := 63) (s1 := 2) (s2 := 0) (as := [(0, 1)]) (rest := []) kx_210_19 kp_210_386 (Or.inl rfl) rfl (tk_63 hT) ki_199 kcl_199 rfl rfl (by decide) (f_199 (d := d + 2) (full := 1) hT hI hX hY hn (by omega)) (kW (fun v37 M38 hI38 fr38 v37p => ?_))
    have hFm38 := hFm.call fr38 rfl
    have tr39 := (fr38 63 35 rfl)
    have tr40 := (fr38 63 36 rfl)
    have tr41 := rg_63_9 hI38
    refine s_if_ne (t := 26) kx_210_22 (by decide) (fun hc42 => ?_) (fun hc42 => ?_)
    · have hc43 := v37p.2.2.2.resolve_right (by omega)
      have hc43a := hc43.2.1
      refine s_aload_n kx_210_26 rfl ?_
      refine r_getR (k := 63) (f := 25) (k2 := 75) kx_210_27 kp_210_87 (tk_63 hT) kf_12_25 (by decide) (rq_63_25 hI38) ?_
      refine s_aload_n kx_210_30 rfl ?_
      refine r_getK (k := 63) (f := 36) kx_210_31 kp_210_121 (tk_63 hT) kf_12_36 (fun _ => rfl) ((fr38 63 36 rfl).trans v1e) ?_
      refine s_aload_n kx_210_34 rfl ?_
      refine r_getI (k := 63) (f := 35) kx_210_35 kp_210_118 (tk_63 hT) kf_12_35 (fun _ => rfl) (rg_63_35 hI38) (fun v44 v44e v44a v44b => ?_)
      have v44z : M 63 35 = v44 := ((fr38 63 35 rfl)).symm.trans v44e
      have h3645 : M38 63 36 = v1 := ((fr38 63 36 rfl).trans v1e)
      refine r_ast (k := 75) kx_210_38 (tk_75 hT) ⟨by omega, by omega⟩ hI38 (ru_75 (by omega) (by omega)) (fun M46 hI46 u46 => ?_)
      have hFm46 := hFm38.up u46 rfl
      have tr47 := (u46.2 63 3 (by omega))
      have tr48 := (u46.2 63 4 (by omega))
      have tr49 := (u46.2 63 5 (by omega))
      have tr50 := (u46.2 63 9 (by omega))
      have tr51 := (u46.2 63 35 (by omega))
      have tr52 := (u46.2 63 36 (by omega))
      refine s_aload_n kx_210_39 rfl ?_
      refine s_iconst (v := 0) kx_210_40 (by decide) ?_
      refine s_callV2 (k := 63) (s1 := 2) (s2 := 0) (as := [(0, 0)]) (rest := []) kx_210_41 kp_210_410 (Or.inl rfl) rfl (tk_63 hT) ki_198 kcl_198 rfl rfl (by decide) (f_198 (d := d) (test := 0) hT hI46 (LXp.up v37p.1 u46 (Or.inl (by decide))) hn (LyA.up (Yst.z (show Yst M38 s n 0 (owE s n q) from Or.inr ⟨rfl, hc43.2.1.2.2, hc43.2.2⟩)).2 u46 ⟨by decide, Or.inl (by decide)⟩) (by omega) (by omega) (by omega)) (kV (fun M54 hI54 fr54 v53p => ?_))
      have hFm54 := hFm46.call fr54 rfl
      have tr55 := (fr54 63 36 rfl)
      have tr56 := rg_63_9 hI54
      have hOld57 := And.intro v53p.1 (And.intro v53p.2.1 (And.intro v53p.2.2.1 v53p.2.2.2.1))
      have hO58 := KO.rd (KO.up (KO.fr (KO.refl (M := M)) fr38 rfl) u46 (by decide) (Or.inl (by omega))) ((u46.2 63 36 (by omega)).trans (fr38 63 36 rfl)) fr54 rfl hOld57.2.2.2.2
      have hr59 := hOld57.2.2.2.1
      have tr60 := ((fr54 63 36 rfl).trans ((u46.2 63 36 (by omega)).trans (fr38 63 36 rfl)))
      refine s_aload_n kx_210_44 rfl ?_
      refine r_getR (k := 63) (f := 26) (k2 := 76) kx_210_45 kp_210_90 (tk_63 hT) kf_12_26 (by decide) (rq_63_26 hI54) ?_
      refine s_aload_n kx_210_48 rfl ?_
      refine r_getK (k := 63) (f := 36) kx_210_49 kp_210_121 (tk_63 hT) kf_12_36 (fun _ => rfl) ((fr54 63 36 rfl).trans ((u46.2 63 36 (by omega)).trans ((fr38 63 36 rfl).trans v1e))) ?_
      refine s_aload_n kx_210_52 rfl ?_
      refine r_getI (k := 63) (f := 35) kx_210_53 kp_210_118 (tk_63 hT) kf_12_35 (fun _ => rfl) (rg_63_35 hI54) (fun v61 v61e v61a v61b => ?_)
      refine r_ast (k := 76) kx_210_56 (tk_76 hT) ⟨by omega, by omega⟩ hI54 (ru_76 (by omega) (by omega)) (fun M62 hI62 u62 => ?_)
      have hFm62 := hFm54.up u62 rfl
      have tr63 := (u62.2 63 3 (by omega))
      have tr64 := (u62.2 63 4 (by omega))
      have tr65 := (u62.2 63 5 (by omega))
      have tr66 := (u62.2 63 9 (by omega))
      have tr67 := (u62.2 63 35 (by omega))
      have tr68 := (u62.2 63 36 (by omega))
      exact s_vret kx_210_57 kq_210 ⟨_, rfl, rfl, hI62, hFm62, ⟨(LXp.up v53p.1 u62 (Or.inl (by decide))), (by omega), (by omega), ⟨(if h9 : 1 ≤ M62 63 9 then Or.inl h9 else Or.inr ⟨by omega, ⟨(TS_put (x := 75) (y := 76) (z := 77) (w := 78) (by decide) (TSg.fr hS (rg_63_36 hI).1 fr38 rfl).2 ((fr38 63 36 rfl).trans v1e) v44e (by omega) (by omega) u46 fr54 rfl rfl hOld57.2.2.2.1 (by omega) v61e u62).1, (TS_put (x := 75) (y := 76) (z := 77) (w := 78) (by decide) (TSg.fr hS (rg_63_36 hI).1 fr38 rfl).2 ((fr38 63 36 rfl).trans v1e) v44e (by omega) (by omega) u46 fr54 rfl rfl hOld57.2.2.2.1 (by omega) v61e u62).2⟩, by have hq := (Or.resolve_left (show _ ∨ _ from hOld57.2.2.2.1) (by omega)).2.1; omega⟩), (KO.up hO58 u62 (by decide) (Or.inl (by omega)))⟩, (Or.inr ⟨(hR.2.2.2.2.2.2.1).mpr (by rw [v1e]; omega), RsX.up v53p.2.2.2.2 u62 (by decide), fun _ => (RSD.up (RSD.fr (RSD.s75 (RSD.fr hR fr38 rfl) ((fr38 63 36 rfl).trans v1e) u46 (by omega)) fr54 rfl) u62 (by omega))⟩)⟩⟩
    · have hc69 := v37p.2.2.2.resolve_left (by omega)
      have hc69a := hc69.2.1
      exact s_vret kx_210_25 kq_210 ⟨_, rfl, rfl, hI38, hFm38, ⟨v37p.1, (by omega), (by omega), ⟨Or.inl (by omega), (KO.fr (KO.refl (M := M)) fr38 rfl)⟩, (Or.inl ⟨fun z => by have hz := (hR.2.2.2.2.2.2.1).mp z; rw [v1e] at hz; omega, hc69.2.2.1⟩)⟩⟩
def gS_211_m : List (Nat × Nat) := [(63, 10), (63, 13), (63, 3), (63, 35), (63, 4), (63, 42), (63, 43), (63, 45), (63, 46), (63, 5), (63, 6), (63, 7), (63, 8), (63, 9), (77, 99999), (78, 99999), (81, 99999), (82, 99999), (85, 99999), (86, 99999), (87, 99999), (88, 99999), (89, 99999), (90, 99999)]
theorem f_211 {xs : Nat → Int} {Ln d : Nat} {T : List cK} {M : cM} (hT : TT T) (hI : Rng M) (hX : LXp M) {s : Nat → Int} {n q : Int} {D : cM} (hY : Yst M s n 0 q) (hn : n ≤ 1600) (hR : RSD M D) (hS : TSg M) (p0 : M 63 4 + 1 ≤ M 63 5) (p1 : M 63 35 ≤ M 63 4) : cC k_P xs Ln (d + 5) 211 [rf 63] (T, M) (qV T M gS_211_m (fun M1 => LXp M1 ∧ M 63 4 ≤ M1 63 4 ∧ M 63 9 ≤ M1 63 9 ∧ (SLd M M1 ∧ KO M M1) ∧ ((D 12 0 ≠ 0 ∧ (60000 + owB s n q ≠ 0 ∧ FlY M1 (60000 + owB s n q))) ∨ (D 12 0 = 0 ∧ RsX M1 s n (owE s n q) ∧ (M1 63 9 = 0 → RSD M1 (owFg D 12)))))) := by
  show cP k_P xs Ln (d + 5) 211 0 [(0, rf 63)] [] (T, M) _
  have hFm : Fr gS_211_m M M := Fr.refl
  have h639 := rg_63_9 hI
  have ⟨lx1, lx2⟩ := hX
  have h36 := rg_63_36 hI
  have h35 := rg_63_35 hI
  have hz9 := hY.z.1
  refine s_aload_n kx_211_0 rfl ?_
  refine s_aload_n kx_211_1 rfl ?_
  refine r_getR (k := 63) (f := 27) (k2 := 77) kx_211_2 kp_211_93 (tk_63 hT) kf_12_27 (by decide) (rq_63_27 hI) ?_
  refine s_aload_n kx_211_5 rfl ?_
  refine r_getI (k := 63) (f := 36) kx_211_6 kp_211_121 (tk_63 hT) kf_12_36 (fun _ => rfl) (rg_63_36 hI) (fun v1 v1e v1a v1b => ?_)
  refine r_ald (k := 77) kx_211_9 (tk_77 hT) ⟨by omega, by omega⟩ (rg_77 hI) (fun v2 v2e v2a v2b => ?_)
  refine s_iconst (v := (-1)) kx_211_10 (by decide) ?_
  refine s_icmp_eq (t := 18) kx_211_11 (by decide) (fun hc3 => ?_) (fun hc3 => ?_)
  · refine s_iconst (v := 0) kx_211_18 (by decide) ?_
    refine s_callV2 (k := 63) (s1 := 2) (s2 := 0) (as := [(0, 0)]) (rest := []) kx_211_19 kp_211_386 (Or.inl rfl) rfl (tk_63 hT) ki_199 kcl_199 rfl rfl (by decide) (f_199 (d := d + 2) (full := 0) hT hI hX hY hn (by omega)) (kW (fun v4 M5 hI5 fr5 v4p => ?_))
    have hFm5 := hFm.call fr5 rfl
    have tr6 := (fr5 63 35 rfl)
    have tr7 := (fr5 63 36 rfl)
    have tr8 := rg_63_9 hI5
    refine s_if_ne (t := 26) kx_211_22 (by decide) (fun hc9 => ?_) (fun hc9 => ?_)
    · have hc10 := v4p.2.2.2.resolve_right (by omega)
      have hc10a := hc10.2.1
      refine s_aload_n kx_211_26 rfl ?_
      refine r_getR (k := 63) (f := 27) (k2 := 77) kx_211_27 kp_211_93 (tk_63 hT) kf_12_27 (by decide) (rq_63_27 hI5) ?_
      refine s_aload_n kx_211_30 rfl ?_
      refine r_getK (k := 63) (f := 36) kx_211_31 kp_211_121 (tk_63 hT) kf_12_36 (fun _ => rfl) ((fr5 63 36 rfl).trans v1e) ?_
      refine s_aload_n kx_211_34 rfl ?_
      refine r_getI (k := 63) (f := 35) kx_211_35 kp_211_118 (tk_63 hT) kf_12_35 (fun _ => rfl) (rg_63_35 hI5) (fun v11 v11e v11a v11b => ?_)
      have v11z : M 63 35 = v11 := ((fr5 63 35 rfl)).symm.trans v11e
      have h3612 : M5 63 36 = v1 := ((fr5 63 36 rfl).trans v1e)
      refine r_ast (k := 77) kx_211_38 (tk_77 hT) ⟨by omega, by omega⟩ hI5 (ru_77 (by omega) (by omega)) (fun M13 hI13 u13 => ?_)
      have hFm13 := hFm5.up u13 rfl
      have tr14 := (u13.2 63 3 (by omega))
      have tr15 := (u13.2 63 4 (by omega))
      have tr16 := (u13.2 63 5 (by omega))
      have tr17 := (u13.2 63 9 (by omega))
      have tr18 := (u13.2 63 35 (by omega))
      have tr19 := (u13.2 63 36 (by omega))
      refine s_aload_n kx_211_39 rfl ?_
      refine s_iconst (v := 0) kx_211_40 (by decide) ?_
      refine s_callV2 (k := 63) (s1 := 2) (s2 := 0) (as := [(0, 0)]) (rest := []) kx_211_41 kp_211_410 (Or.inl rfl) rfl (tk_63 hT) ki_198 kcl_198 rfl rfl (by decide) (f_198 (d := d) (test := 0) hT hI13 (LXp.up v4p.1 u13 (Or.inl (by decide))) hn (LyA.up (Yst.z (show Yst M5 s n 0 (owE s n q) from Or.inr ⟨rfl, hc10.2.1.2.2, hc10.2.2⟩)).2 u13 ⟨by decide, Or.inl (by decide)⟩) (by omega) (by omega) (by omega)) (kV (fun M21 hI21 fr21 v20p => ?_))
      have hFm21 := hFm13.call fr21 rfl
      have tr22 := (fr21 63 36 rfl)
      have tr23 := rg_63_9 hI21
      have hOld24 := And.intro v20p.1 (And.intro v20p.2.1 (And.intro v20p.2.2.1 v20p.2.2.2.1))
      have hO25 := KO.rd (KO.up (KO.fr (KO.refl (M := M)) fr5 rfl) u13 (by decide) (Or.inl (by omega))) ((u13.2 63 36 (by omega)).trans (fr5 63 36 rfl)) fr21 rfl hOld24.2.2.2.2
      have hr26 := hOld24.2.2.2.1
      have tr27 := ((fr21 63 36 rfl).trans ((u13.2 63 36 (by omega)).trans (fr5 63 36 rfl)))
      refine s_aload_n kx_211_44 rfl ?_
      refine r_getR (k := 63) (f := 28) (k2 := 78) kx_211_45 kp_211_96 (tk_63 hT) kf_12_28 (by decide) (rq_63_28 hI21) ?_
      refine s_aload_n kx_211_48 rfl ?_
      refine r_getK (k := 63) (f := 36) kx_211_49 kp_211_121 (tk_63 hT) kf_12_36 (fun _ => rfl) ((fr21 63 36 rfl).trans ((u13.2 63 36 (by omega)).trans ((fr5 63 36 rfl).trans v1e))) ?_
      refine s_aload_n kx_211_52 rfl ?_
      refine r_getI (k := 63) (f := 35) kx_211_53 kp_211_118 (tk_63 hT) kf_12_35 (fun _ => rfl) (rg_63_35 hI21) (fun v28 v28e v28a v28b => ?_)
      refine r_ast (k := 78) kx_211_56 (tk_78 hT) ⟨by omega, by omega⟩ hI21 (ru_78 (by omega) (by omega)) (fun M29 hI29 u29 => ?_)
      have hFm29 := hFm21.up u29 rfl
      have tr30 := (u29.2 63 3 (by omega))
      have tr31 := (u29.2 63 4 (by omega))
      have tr32 := (u29.2 63 5 (by omega))
      have tr33 := (u29.2 63 9 (by omega))
      have tr34 := (u29.2 63 35 (by omega))
      have tr35 := (u29.2 63 36 (by omega))
      exact s_vret kx_211_57 kq_211 ⟨_, rfl, rfl, hI29, hFm29, ⟨(LXp.up v20p.1 u29 (Or.inl (by decide))), (by omega), (by omega), ⟨(if h9 : 1 ≤ M29 63 9 then Or.inl h9 else Or.inr ⟨by omega, ⟨(TS_put (x := 77) (y := 78) (z := 75) (w := 76) (by decide) (TSg.fr hS (rg_63_36 hI).1 fr5 rfl).1 ((fr5 63 36 rfl).trans v1e) v11e (by omega) (by omega) u13 fr21 rfl rfl hOld24.2.2.2.1 (by omega) v28e u29).2, (TS_put (x := 77) (y := 78) (z := 75) (w := 76) (by decide) (TSg.fr hS (rg_63_36 hI).1 fr5 rfl).1 ((fr5 63 36 rfl).trans v1e) v11e (by omega) (by omega) u13 fr21 rfl rfl hOld24.2.2.2.1 (by omega) v28e u29).1⟩, by have hq := (Or.resolve_left (show _ ∨ _ from hOld24.2.2.2.1) (by omega)).2.1; omega⟩), (KO.up hO25 u29 (by decide) (Or.inl (by omega)))⟩, (Or.inr ⟨(hR.2.2.2.2.2.2.2.1).mpr (by rw [v1e]; omega), RsX.up v20p.2.2.2.2 u29 (by decide), fun _ => (RSD.up (RSD.fr (RSD.s77 (RSD.fr hR fr5 rfl) ((fr5 63 36 rfl).trans v1e) u13 (by omega)) fr21 rfl) u29 (by omega))⟩)⟩⟩
    · have hc36 := v4p.2.2.2.resolve_left (by omega)
      have hc36a := hc36.2.1
      exact s_vret kx_211_25 kq_211 ⟨_, rfl, rfl, hI5, hFm5, ⟨v4p.1, (by omega), (by omega), ⟨Or.inl (by omega), (KO.fr (KO.refl (M := M)) fr5 rfl)⟩, (Or.inl ⟨fun z => by have hz := (hR.2.2.2.2.2.2.2.1).mp z; rw [v1e] at hz; omega, hc36.2.2.1⟩)⟩⟩
  · refine s_iconst (v := 1) kx_211_14 (by decide) ?_
    refine s_goto (t := 19) kx_211_15 (by decide) ?_
    refine s_callV2 (k := 63) (s1 := 2) (s2 := 0) (as := [(0, 1)]) (rest := []) kx_211_19 kp_211_386 (Or.inl rfl) rfl (tk_63 hT) ki_199 kcl_199 rfl rfl (by decide) (f_199 (d := d + 2) (full := 1) hT hI hX hY hn (by omega)) (kW (fun v37 M38 hI38 fr38 v37p => ?_))
    have hFm38 := hFm.call fr38 rfl
    have tr39 := (fr38 63 35 rfl)
    have tr40 := (fr38 63 36 rfl)
    have tr41 := rg_63_9 hI38
    refine s_if_ne (t := 26) kx_211_22 (by decide) (fun hc42 => ?_) (fun hc42 => ?_)
    · have hc43 := v37p.2.2.2.resolve_right (by omega)
      have hc43a := hc43.2.1
      refine s_aload_n kx_211_26 rfl ?_
      refine r_getR (k := 63) (f := 27) (k2 := 77) kx_211_27 kp_211_93 (tk_63 hT) kf_12_27 (by decide) (rq_63_27 hI38) ?_
      refine s_aload_n kx_211_30 rfl ?_
      refine r_getK (k := 63) (f := 36) kx_211_31 kp_211_121 (tk_63 hT) kf_12_36 (fun _ => rfl) ((fr38 63 36 rfl).trans v1e) ?_
      refine s_aload_n kx_211_34 rfl ?_
      refine r_getI (k := 63) (f := 35) kx_211_35 kp_211_118 (tk_63 hT) kf_12_35 (fun _ => rfl) (rg_63_35 hI38) (fun v44 v44e v44a v44b => ?_)
      have v44z : M 63 35 = v44 := ((fr38 63 35 rfl)).symm.trans v44e
      have h3645 : M38 63 36 = v1 := ((fr38 63 36 rfl).trans v1e)
      refine r_ast (k := 77) kx_211_38 (tk_77 hT) ⟨by omega, by omega⟩ hI38 (ru_77 (by omega) (by omega)) (fun M46 hI46 u46 => ?_)
      have hFm46 := hFm38.up u46 rfl
      have tr47 := (u46.2 63 3 (by omega))
      have tr48 := (u46.2 63 4 (by omega))
      have tr49 := (u46.2 63 5 (by omega))
      have tr50 := (u46.2 63 9 (by omega))
      have tr51 := (u46.2 63 35 (by omega))
      have tr52 := (u46.2 63 36 (by omega))
      refine s_aload_n kx_211_39 rfl ?_
      refine s_iconst (v := 0) kx_211_40 (by decide) ?_
      refine s_callV2 (k := 63) (s1 := 2) (s2 := 0) (as := [(0, 0)]) (rest := []) kx_211_41 kp_211_410 (Or.inl rfl) rfl (tk_63 hT) ki_198 kcl_198 rfl rfl (by decide) (f_198 (d := d) (test := 0) hT hI46 (LXp.up v37p.1 u46 (Or.inl (by decide))) hn (LyA.up (Yst.z (show Yst M38 s n 0 (owE s n q) from Or.inr ⟨rfl, hc43.2.1.2.2, hc43.2.2⟩)).2 u46 ⟨by decide, Or.inl (by decide)⟩) (by omega) (by omega) (by omega)) (kV (fun M54 hI54 fr54 v53p => ?_))
      have hFm54 := hFm46.call fr54 rfl
      have tr55 := (fr54 63 36 rfl)
      have tr56 := rg_63_9 hI54
      have hOld57 := And.intro v53p.1 (And.intro v53p.2.1 (And.intro v53p.2.2.1 v53p.2.2.2.1))
      have hO58 := KO.rd (KO.up (KO.fr (KO.refl (M := M)) fr38 rfl) u46 (by decide) (Or.inl (by omega))) ((u46.2 63 36 (by omega)).trans (fr38 63 36 rfl)) fr54 rfl hOld57.2.2.2.2
      have hr59 := hOld57.2.2.2.1
      have tr60 := ((fr54 63 36 rfl).trans ((u46.2 63 36 (by omega)).trans (fr38 63 36 rfl)))
      refine s_aload_n kx_211_44 rfl ?_
      refine r_getR (k := 63) (f := 28) (k2 := 78) kx_211_45 kp_211_96 (tk_63 hT) kf_12_28 (by decide) (rq_63_28 hI54) ?_
      refine s_aload_n kx_211_48 rfl ?_
      refine r_getK (k := 63) (f := 36) kx_211_49 kp_211_121 (tk_63 hT) kf_12_36 (fun _ => rfl) ((fr54 63 36 rfl).trans ((u46.2 63 36 (by omega)).trans ((fr38 63 36 rfl).trans v1e))) ?_
      refine s_aload_n kx_211_52 rfl ?_
      refine r_getI (k := 63) (f := 35) kx_211_53 kp_211_118 (tk_63 hT) kf_12_35 (fun _ => rfl) (rg_63_35 hI54) (fun v61 v61e v61a v61b => ?_)
      refine r_ast (k := 78) kx_211_56 (tk_78 hT) ⟨by omega, by omega⟩ hI54 (ru_78 (by omega) (by omega)) (fun M62 hI62 u62 => ?_)
      have hFm62 := hFm54.up u62 rfl
      have tr63 := (u62.2 63 3 (by omega))
      have tr64 := (u62.2 63 4 (by omega))
      have tr65 := (u62.2 63 5 (by omega))
      have tr66 := (u62.2 63 9 (by omega))
      have tr67 := (u62.2 63 35 (by omega))
      have tr68 := (u62.2 63 36 (by omega))
      exact s_vret kx_211_57 kq_211 ⟨_, rfl, rfl, hI62, hFm62, ⟨(LXp.up v53p.1 u62 (Or.inl (by decide))), (by omega), (by omega), ⟨(if h9 : 1 ≤ M62 63 9 then Or.inl h9 else Or.inr ⟨by omega, ⟨(TS_put (x := 77) (y := 78) (z := 75) (w := 76) (by decide) (TSg.fr hS (rg_63_36 hI).1 fr38 rfl).1 ((fr38 63 36 rfl).trans v1e) v44e (by omega) (by omega) u46 fr54 rfl rfl hOld57.2.2.2.1 (by omega) v61e u62).2, (TS_put (x := 77) (y := 78) (z := 75) (w := 76) (by decide) (TSg.fr hS (rg_63_36 hI).1 fr38 rfl).1 ((fr38 63 36 rfl).trans v1e) v44e (by omega) (by omega) u46 fr54 rfl rfl hOld57.2.2.2.1 (by omega) v61e u62).1⟩, by have hq := (Or.resolve_left (show _ ∨ _ from hOld57.2.2.2.1) (by omega)).2.1; omega⟩), (KO.up hO58 u62 (by decide) (Or.inl (by omega)))⟩, (Or.inr ⟨(hR.2.2.2.2.2.2.2.1).mpr (by rw [v1e]; omega), RsX.up v53p.2.2.2.2 u62 (by decide), fun _ => (RSD.up (RSD.fr (RSD.s77 (RSD.fr hR fr38 rfl) ((fr38 63 36 rfl).trans v1e) u46 (by omega)) fr54 rfl) u62 (by omega))⟩)⟩⟩
    · have hc69 := v37p.2.2.2.resolve_left (by omega)
      have hc69a := hc69.2.1
      exact s_vret kx_211_25 kq_211 ⟨_, rfl, rfl, hI38, hFm38, ⟨v37p.1, (by omega), (by omega), ⟨Or.inl (by omega), (KO.fr (KO.refl (M := M)) fr38 rfl)⟩, (Or.inl ⟨fun z => by have hz := (hR.2.2.2.2.2.2.2.1).mp z; rw [v1e] at hz; omega, hc69.2.2.1⟩)⟩⟩
