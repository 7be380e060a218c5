/-! slow, stands; statements -/
section YT
variable {M M1 D : cM} {s : Nat → Int} {n p f q : Int}
theorem RsX.up {k g : Nat} {v : Int} {Pc Qc : List Int → Prop} (h : RsX M s n p Pc) (u : Up M k g v M1) (hk : k ≠ 64 ∧ k ≠ 63) (hp : M 63 9 = 0 → ∀ c, Pc c → Qc c) : RsX M1 s n p Qc := by
  rcases h with ⟨f, h1, h2, h3⟩ | ⟨h9, q, c, h1, h2, h4⟩
  · exact Or.inl ⟨f, h1, h2.up u (by omega), h3⟩
  · exact Or.inr ⟨(u.2 63 9 (by omega)).trans h9, q, c, h1.up u (by omega), h2, hp h9 c h4⟩
theorem RSD.s75 {v i : Int} (h : RSD M D) (hi : M 63 36 = i) (u : Up M 75 i.toNat v M1) (hv : v ≠ -1) (cs : List Int) : RSD M1 (owFg D 11 cs) := by
  obtain ⟨a1, a2, a3, a4, a5, a6, a7, a8, a9⟩ := h
  have ec : ∀ c, c ≠ 75 → ∀ g, M1 c g = M c g := fun c hc g => u.2 c g (by omega)
  unfold RSD
  rw [ec 63 (by decide), hi]
  rw [hi] at a1 a2 a3 a4 a5 a6 a7 a8 a9
  simp only [ec 65 (by decide), ec 66 (by decide), ec 67 (by decide), ec 69 (by decide), ec 70 (by decide), ec 71 (by decide), ec 72 (by decide), ec 73 (by decide), ec 74 (by decide), ec 77 (by decide), ec 79 (by decide), ec 80 (by decide), ec 83 (by decide), ec 84 (by decide), u.1]
  simp [owFg]
  refine ⟨a1, a2, a3, a4, a5, a6, ⟨fun z => by omega, fun z => absurd z hv⟩, a8, a9.of (fun g => ec 68 (by decide) g) (by simp [owFg]) (fun g => by simp [owFg])⟩
theorem RSD.s77 {v i : Int} (h : RSD M D) (hi : M 63 36 = i) (u : Up M 77 i.toNat v M1) (hv : v ≠ -1) (cs : List Int) : RSD M1 (owFg D 12 cs) := by
  obtain ⟨a1, a2, a3, a4, a5, a6, a7, a8, a9⟩ := h
  have ec : ∀ c, c ≠ 77 → ∀ g, M1 c g = M c g := fun c hc g => u.2 c g (by omega)
  unfold RSD
  rw [ec 63 (by decide), hi]
  rw [hi] at a1 a2 a3 a4 a5 a6 a7 a8 a9
  simp only [ec 65 (by decide), ec 66 (by decide), ec 67 (by decide), ec 69 (by decide), ec 70 (by decide), ec 71 (by decide), ec 72 (by decide), ec 73 (by decide), ec 74 (by decide), ec 75 (by decide), ec 79 (by decide), ec 80 (by decide), ec 83 (by decide), ec 84 (by decide), u.1]
  simp [owFg]
  refine ⟨a1, a2, a3, a4, a5, a6, a7, ⟨fun z => by omega, fun z => absurd z hv⟩, a9.of (fun g => ec 68 (by decide) g) (by simp [owFg]) (fun g => by simp [owFg])⟩
/-- the codes of both sums of a town that is told, in the reference's rows -/
def CD1 (i : Int) (M D : cM) (j x y : Nat) : Prop := D j 0 ≠ 0 → (0 ≤ M x i.toNat ∧ M y i.toNat - M x i.toNat = D j 0 - 1) ∧ ∀ k : Nat, (k : Int) < D j 0 - 1 → kdc (D j (k + 1)) (M 81 (1600 * i + M x i.toNat + (k : Int)).toNat) (M 82 (1600 * i + M x i.toNat + (k : Int)).toNat)
def CDR (i : Int) (M D : cM) : Prop := CD1 i M D 11 75 76 ∧ CD1 i M D 12 77 78
def cdf (S : List (Nat × Nat)) : Bool := [75, 76, 77, 78, 81, 82].all fun c => S.all fun p => p.1 != c
theorem CD1.eq {i : Int} {D1 : cM} {j x y : Nat} (h : CD1 i M D j x y) (e : ∀ f, M1 x f = M x f) (e1 : ∀ f, M1 y f = M y f) (e81 : ∀ f, M1 81 f = M 81 f) (e82 : ∀ f, M1 82 f = M 82 f) (eD : ∀ f, D1 j f = D j f) : CD1 i M1 D1 j x y := by
  unfold CD1
  simp only [e, e1, e81, e82, eD]
  exact h
theorem CDR.dd {i : Int} {D1 : cM} (h : CDR i M D) (eD : ∀ j f, j = 11 ∨ j = 12 → D1 j f = D j f) : CDR i M D1 :=
  ⟨h.1.eq (fun _ => rfl) (fun _ => rfl) (fun _ => rfl) (fun _ => rfl) (fun f => eD 11 f (Or.inl rfl)), h.2.eq (fun _ => rfl) (fun _ => rfl) (fun _ => rfl) (fun _ => rfl) (fun f => eD 12 f (Or.inr rfl))⟩
theorem CDR.fr {S : List (Nat × Nat)} {i : Int} (h : CDR i M D) (g : Fr S M M1) (hs : cdf S = true) : CDR i M1 D := by
  unfold cdf at hs
  have e : ∀ c, c ∈ [75, 76, 77, 78, 81, 82] → ∀ f, M1 c f = M c f := fun c hc f => g c f (nin (by simp at hc; omega) (List.all_eq_true.mp hs c hc) f)
  exact ⟨h.1.eq (e 75 (by decide)) (e 76 (by decide)) (e 81 (by decide)) (e 82 (by decide)) (fun _ => rfl), h.2.eq (e 77 (by decide)) (e 78 (by decide)) (e 81 (by decide)) (e 82 (by decide)) (fun _ => rfl)⟩
theorem CDR.up {i v : Int} {k f : Nat} (h : CDR i M D) (u : Up M k f v M1) (hk : ¬ (75 ≤ k ∧ k ≤ 78) ∧ k ≠ 81 ∧ k ≠ 82) : CDR i M1 D := by
  have e : ∀ c, (75 ≤ c ∧ c ≤ 78) ∨ c = 81 ∨ c = 82 → ∀ f, M1 c f = M c f := fun c hc f => u.2 c f (by omega)
  exact ⟨h.1.eq (e 75 (by decide)) (e 76 (by decide)) (e 81 (by decide)) (e 82 (by decide)) (fun _ => rfl), h.2.eq (e 77 (by decide)) (e 78 (by decide)) (e 81 (by decide)) (e 82 (by decide)) (fun _ => rfl)⟩
/-- a sum is told: its codes stand there, those of the other one stay -/
theorem CD1.new {i : Int} {a : pRa} {j x y : Nat} {c : List Int} (h : RCo M a c) (hi : M 63 36 = i) (hx : M x i.toNat = a.2) (hy : M y i.toNat = M 63 35) : CD1 i M (owFg D j c) j x y := by
  obtain ⟨h0, h1, h2, h3, _⟩ := h
  have e0 : owFg D j c j 0 = (c.length : Int) + 1 := by unfold owFg; rw [if_pos rfl, if_pos rfl]
  intro _
  rw [e0, hx, hy]
  refine ⟨⟨h0, by omega⟩, fun k hk => ?_⟩
  have e1 : owFg D j c j (k + 1) = c.reverse.getD k 0 := by unfold owFg; rw [if_pos rfl, if_neg (Nat.succ_ne_zero k), Nat.add_sub_cancel]
  rw [e1, ← hi]
  exact h3 k (by omega)
theorem CD1.keep {i b : Int} {j x y : Nat} (h : CD1 i M D j x y) (hx : M1 x i.toNat = M x i.toNat) (hy : M1 y i.toNat = M y i.toNat) (hb : D j 0 ≠ 0 → M y i.toNat ≤ b) (h0 : 0 ≤ i) (e : ∀ k : Nat, (k : Int) < 1600 * i + b → M1 81 k = M 81 k ∧ M1 82 k = M 82 k) {D1 : cM} (eD : ∀ f, D1 j f = D j f) : CD1 i M1 D1 j x y := by
  intro g
  rw [eD] at g
  have h1 := h g
  have hb := hb g
  rw [hx, hy, eD 0]
  refine ⟨h1.1, fun k hk => ?_⟩
  have h2 := h1.2 k hk
  have h3 := e (1600 * i + M x i.toNat + (k : Int)).toNat (by omega)
  rw [h3.1, h3.2, eD]
  exact h2
theorem cdr_put {S : List (Nat × Nat)} {M5 M6 M7 M8 : cM} {i i2 c0 c1 : Int} {j x y j' x' y' : Nat} {c : List Int} (hx : (j = 11 ∧ x = 75 ∧ y = 76 ∧ j' = 12 ∧ x' = 77 ∧ y' = 78) ∨ (j = 12 ∧ x = 77 ∧ y = 78 ∧ j' = 11 ∧ x' = 75 ∧ y' = 76)) (hC : CDR i2 M5 D) (hi2 : i2 = i) (hi : M5 63 36 = i) (i0 : 0 ≤ i) (hc0 : M5 63 35 = c0) (u1 : Up M5 x i.toNat c0 M6) (g : Fr S M6 M7) (s36 : c_in S 63 36 = false) (sx : ([75, 76, 77, 78].all fun c => S.all fun p => p.1 != c) = true) (hr : RDd M6 M7) (h9 : ¬ 1 ≤ M7 63 9) (hc1 : M7 63 35 = c1) (u2 : Up M7 y i.toNat c1 M8) (hT : tS M5 x' y') (hc : RCo M7 (M6 82, M6 63 35) c) : CDR i2 M8 (owFg D j c) := by
  subst hi2
  have g7 : ∀ c, c = 75 ∨ c = 76 ∨ c = 77 ∨ c = 78 → ∀ f, M7 c f = M6 c f := fun c hcc f => g c f (nin (by omega) (List.all_eq_true.mp sx c (by rcases hcc with rfl | rfl | rfl | rfl <;> decide)) f)
  obtain ⟨r1, r2, r3, r4⟩ := Or.resolve_left hr h9
  have e65 : M6 63 35 = c0 := (u1.2 63 35 (by omega)).trans hc0
  have e66 : M6 63 36 = i2 := (u1.2 63 36 (by omega)).trans hi
  have e76 : M7 63 36 = i2 := (g 63 36 s36).trans e66
  have e86 : M8 63 36 = i2 := (u2.2 63 36 (by omega)).trans e76
  have e85 : M8 63 35 = c1 := (u2.2 63 35 (by omega)).trans hc1
  have hc8 : RCo M8 (M6 82, M6 63 35) c := hc.up u2 (by omega)
  have new : CD1 i2 M8 (owFg D j c) j x y := by
    refine CD1.new hc8 e86 ?_ ?_
    · show M8 x i2.toNat = M6 63 35
      rw [u2.2 x _ (by omega), g7 x (by omega), u1.1, e65]
    · rw [e85]
      exact u2.1
  have keep : CD1 i2 M5 D j' x' y' → CD1 i2 M8 (owFg D j c) j' x' y' := by
    intro h
    refine h.keep (b := c0) ?_ ?_ ?_ i0 ?_ (fun f => if_neg (by omega))
    · rw [u2.2 x' _ (by omega), g7 x' (by omega)]
      exact u1.2 x' _ (by omega)
    · rw [u2.2 y' _ (by omega), g7 y' (by omega)]
      exact u1.2 y' _ (by omega)
    · intro z
      have h1 := (h z).1
      rcases hT with z1 | z1
      · rw [hi] at z1
        omega
      · rw [hi] at z1
        omega
    · intro k hk
      constructor
      · rw [u2.2 81 k (by omega), r4 k (by omega)]
        exact u1.2 81 k (by omega)
      · rw [u2.2 82 k (by omega), hc.2.2.2.2 k (by rw [e76, show ((M6 82, M6 63 35) : pRa).2 = M6 63 35 from rfl, e65]; exact hk)]
        exact u1.2 82 k (by omega)
  rcases hx with ⟨rfl, rfl, rfl, rfl, rfl, rfl⟩ | ⟨rfl, rfl, rfl, rfl, rfl, rfl⟩
  · exact ⟨new, keep hC.2⟩
  · exact ⟨keep hC.1, new⟩
end YT
def gS_210_m : List (Nat × Nat) := [(63, 10), (63, 13), (63, 3), (63, 35), (63, 4), (63, 42), (63, 43), (63, 45), (63, 46), (63, 5), (63, 6), (63, 7), (63, 8), (63, 9), (75, 99999), (76, 99999), (81, 99999), (82, 99999), (85, 99999), (86, 99999), (87, 99999), (88, 99999), (89, 99999), (90, 99999)]
theorem f_210 {xs : Nat → Int} {Ln d : Nat} {T : List cK} {M : cM} (hT : TT T) (hI : Rng M) (hX : LXp M) {s : Nat → Int} {n q : Int} {D : cM} (hY : Yst M s n 0 q) (hn : n ≤ 1600) (hR : RSD M D) (hS : TSg M) {ci : Int} (hci : ci = M 63 36) (hCD : CDR ci M D) {bX : Int} {WX : cM} (hKX : KB bX WX M) (p0 : M 63 4 + 1 ≤ M 63 5) (p1 : M 63 35 ≤ M 63 4) : cC k_P xs Ln (d + 5) 210 [rf 63] (T, M) (qV T M gS_210_m (fun M1 => (LXp M1 ∧ M 63 4 ≤ M1 63 4 ∧ M 63 9 ≤ M1 63 9 ∧ (SLd M M1 ∧ KO M M1) ∧ ((D 11 0 ≠ 0 ∧ (60000 + owB s n q ≠ 0 ∧ FlY M1 (60000 + owB s n q))) ∨ (D 11 0 = 0 ∧ RsX M1 s n (owE s n q) (fun c => CDR ci M1 (owFg D 11 c)) ∧ (M1 63 9 = 0 → ∀ c, RSD M1 (owFg D 11 c))))) ∧ KB bX WX M1)) := by
  show cP k_P xs Ln (d + 5) 210 0 [(0, rf 63)] [] (T, M) _
  have hFm : Fr gS_210_m M M := Fr.refl
  have h639 := rg_63_9 hI
  have ⟨lx1, lx2⟩ := hX
  have h36 := rg_63_36 hI
  have h35 := rg_63_35 hI
  have hz9 := hY.z.1
  have hkx1 := hKX.1
  have hkx2 := hKX.2.1
  have hkx3 := hKX.2.2.1
  refine s_aload_n kx_210_0 rfl ?_
  refine s_aload_n kx_210_1 rfl ?_
  refine r_getR (k := 63) (f := 25) (k2 := 75) kx_210_2 kp_210_87 (tk_63 hT) kf_12_25 (by decide) (rq_63_25 hI) ?_
  refine s_aload_n kx_210_5 rfl ?_
  refine r_getI (k := 63) (f := 36) kx_210_6 kp_210_121 (tk_63 hT) kf_12_36 (fun _ => rfl) (rg_63_36 hI) (fun v1 v1e v1a v1b => ?_)
  refine r_ald (k := 75) kx_210_9 (tk_75 hT) ⟨by omega, by omega⟩ (rg_75 hI) (fun v2 v2e v2a v2b => ?_)
  refine s_iconst (v := (-1)) kx_210_10 (by decide) ?_
  refine s_icmp_eq (t := 18) kx_210_11 (by decide) (fun hc3 => ?_) (fun hc3 => ?_)
  · refine s_iconst (v := 0) kx_210_18 (by decide) ?_
    refine s_callV2 (k := 63) (s1 := 2) (s2 := 0) (as := [(0, 0)]) (rest := []) kx_210_19 kp_210_386 (Or.inl rfl) rfl (tk_63 hT) ki_199 kcl_199 rfl rfl (by decide) (f_199 (d := d + 2) (full := 0) hT hI hX hY hn (by omega)) (kW (fun v4 M5 hI5 fr5 v4p => ?_))
    have hFm5 := hFm.call fr5 rfl
    have tr6 := (fr5 63 35 rfl)
    have tr7 := (fr5 63 36 rfl)
    have tr8 := rg_63_9 hI5
    refine s_if_ne (t := 26) kx_210_22 (by decide) (fun hc9 => ?_) (fun hc9 => ?_)
    · have hc10 := v4p.2.2.2.resolve_right (by omega)
      have hc10a := hc10.2.1
      refine s_aload_n kx_210_26 rfl ?_
      refine r_getR (k := 63) (f := 25) (k2 := 75) kx_210_27 kp_210_87 (tk_63 hT) kf_12_25 (by decide) (rq_63_25 hI5) ?_
      refine s_aload_n kx_210_30 rfl ?_
      refine r_getK (k := 63) (f := 36) kx_210_31 kp_210_121 (tk_63 hT) kf_12_36 (fun _ => rfl) ((fr5 63 36 rfl).trans v1e) ?_
      refine s_aload_n kx_210_34 rfl ?_
      refine r_getI (k := 63) (f := 35) kx_210_35 kp_210_118 (tk_63 hT) kf_12_35 (fun _ => rfl) (rg_63_35 hI5) (fun v11 v11e v11a v11b => ?_)
      have v11z : M 63 35 = v11 := ((fr5 63 35 rfl)).symm.trans v11e
      have h3612 : M5 63 36 = v1 := ((fr5 63 36 rfl).trans v1e)
      refine r_ast (k := 75) kx_210_38 (tk_75 hT) ⟨by omega, by omega⟩ hI5 (ru_75 (by omega) (by omega)) (fun M13 hI13 u13 => ?_)
      have hFm13 := hFm5.up u13 rfl
      have tr14 := (u13.2 63 3 (by omega))
      have tr15 := (u13.2 63 4 (by omega))
      have tr16 := (u13.2 63 5 (by omega))
      have tr17 := (u13.2 63 9 (by omega))
      have tr18 := (u13.2 63 35 (by omega))
      have tr19 := (u13.2 63 36 (by omega))
      have hkx20 := (KB.up1 (KB.fr hKX fr5 rfl) u13 (by decide) ⟨by omega, by omega⟩)
      refine s_aload_n kx_210_39 rfl ?_
      refine s_iconst (v := 0) kx_210_40 (by decide) ?_
      refine s_callV2 (k := 63) (s1 := 2) (s2 := 0) (as := [(0, 0)]) (rest := []) kx_210_41 kp_210_410 (Or.inl rfl) rfl (tk_63 hT) ki_198 kcl_198 rfl rfl (by decide) (f_198 (d := d) (test := 0) hT hI13 (LXp.up v4p.1 u13 (Or.inl (by decide))) hn (LyA.up (Yst.z (show Yst M5 s n 0 (owE s n q) from Or.inr ⟨rfl, hc10.2.1.2.2, hc10.2.2⟩)).2 u13 ⟨by decide, Or.inl (by decide)⟩) (by omega)  hkx20 (by omega) (by omega)) (kV (fun M22 hI22 fr22 v21p => ?_))
      have hFm22 := hFm13.call fr22 rfl
      have tr23 := (fr22 63 36 rfl)
      have tr24 := rg_63_9 hI22
      have v21pk := v21p.2
      (replace v21p := v21p.1)
      have hOld25 := And.intro v21p.1 (And.intro v21p.2.1 (And.intro v21p.2.2.1 v21p.2.2.2.1))
      have hO26 := KO.rd (KO.up (KO.fr (KO.refl (M := M)) fr5 rfl) u13 (by decide) (Or.inl (by omega))) ((u13.2 63 36 (by omega)).trans (fr5 63 36 rfl)) fr22 rfl hOld25.2.2.2.2
      have hr27 := hOld25.2.2.2.1
      have tr28 := ((fr22 63 36 rfl).trans ((u13.2 63 36 (by omega)).trans (fr5 63 36 rfl)))
      refine s_aload_n kx_210_44 rfl ?_
      refine r_getR (k := 63) (f := 26) (k2 := 76) kx_210_45 kp_210_90 (tk_63 hT) kf_12_26 (by decide) (rq_63_26 hI22) ?_
      refine s_aload_n kx_210_48 rfl ?_
      refine r_getK (k := 63) (f := 36) kx_210_49 kp_210_121 (tk_63 hT) kf_12_36 (fun _ => rfl) ((fr22 63 36 rfl).trans ((u13.2 63 36 (by omega)).trans ((fr5 63 36 rfl).trans v1e))) ?_
      refine s_aload_n kx_210_52 rfl ?_
      refine r_getI (k := 63) (f := 35) kx_210_53 kp_210_118 (tk_63 hT) kf_12_35 (fun _ => rfl) (rg_63_35 hI22) (fun v29 v29e v29a v29b => ?_)
      refine r_ast (k := 76) kx_210_56 (tk_76 hT) ⟨by omega, by omega⟩ hI22 (ru_76 (by omega) (by omega)) (fun M30 hI30 u30 => ?_)
      have hFm30 := hFm22.up u30 rfl
      have tr31 := (u30.2 63 3 (by omega))
      have tr32 := (u30.2 63 4 (by omega))
      have tr33 := (u30.2 63 5 (by omega))
      have tr34 := (u30.2 63 9 (by omega))
      have tr35 := (u30.2 63 35 (by omega))
      have tr36 := (u30.2 63 36 (by omega))
      have hkx37 := (KB.up1 v21pk u30 (by decide) ⟨by omega, by omega⟩)
      exact s_vret kx_210_57 kq_210 ⟨_, rfl, rfl, hI30, hFm30, ⟨⟨(LXp.up v21p.1 u30 (Or.inl (by decide))), (by omega), (by omega), ⟨(if h9 : 1 ≤ M30 63 9 then Or.inl h9 else Or.inr ⟨by omega, ⟨(TS_put (x := 75) (y := 76) (z := 77) (w := 78) (by decide) (TSg.fr hS (rg_63_36 hI).1 fr5 rfl).2 ((fr5 63 36 rfl).trans v1e) v11e (by omega) (by omega) u13 fr22 rfl rfl hOld25.2.2.2.1 (by omega) v29e u30).1, (TS_put (x := 75) (y := 76) (z := 77) (w := 78) (by decide) (TSg.fr hS (rg_63_36 hI).1 fr5 rfl).2 ((fr5 63 36 rfl).trans v1e) v11e (by omega) (by omega) u13 fr22 rfl rfl hOld25.2.2.2.1 (by omega) v29e u30).2⟩, by have hq := (Or.resolve_left (show _ ∨ _ from hOld25.2.2.2.1) (by omega)).2.1; omega⟩), (KO.up hO26 u30 (by decide) (Or.inl (by omega)))⟩, (Or.inr ⟨(hR.2.2.2.2.2.2.1).mpr (by rw [v1e]; omega), RsX.up v21p.2.2.2.2 u30 (by decide) (fun h9 c hc => cdr_put (j' := 12) (by decide) (CDR.fr hCD fr5 rfl) (by omega) ((fr5 63 36 rfl).trans v1e) (by omega) v11e u13 fr22 rfl rfl hOld25.2.2.2.1 (by omega) v29e u30 (TSg.fr hS (rg_63_36 hI).1 fr5 rfl).2 hc), fun _ cx => (RSD.up (RSD.fr (RSD.s75 (RSD.fr hR fr5 rfl) ((fr5 63 36 rfl).trans v1e) u13 (by omega) cx) fr22 rfl) u30 (by omega))⟩)⟩, hkx37⟩⟩
    · have hc38 := v4p.2.2.2.resolve_left (by omega)
      have hc38a := hc38.2.1
      exact s_vret kx_210_25 kq_210 ⟨_, rfl, rfl, hI5, hFm5, ⟨⟨v4p.1, (by omega), (by omega), ⟨Or.inl (by omega), (KO.fr (KO.refl (M := M)) fr5 rfl)⟩, (Or.inl ⟨fun z => by have hz := (hR.2.2.2.2.2.2.1).mp z; rw [v1e] at hz; omega, hc38.2.2.1⟩)⟩, (KB.fr hKX fr5 rfl)⟩⟩
  · refine s_iconst (v := 1) kx_210_14 (by decide) ?_
    refine s_goto (t := 19) kx_210_15 (by decide) ?_
    refine s_callV2 (k := 63) (s1 := 2) (s2 := 0) (as := [(0, 1)]) (rest := []) kx_210_19 kp_210_386 (Or.inl rfl) rfl (tk_63 hT) ki_199 kcl_199 rfl rfl (by decide) (f_199 (d := d + 2) (full := 1) hT hI hX hY hn (by omega)) (kW (fun v39 M40 hI40 fr40 v39p => ?_))
    have hFm40 := hFm.call fr40 rfl
    have tr41 := (fr40 63 35 rfl)
    have tr42 := (fr40 63 36 rfl)
    have tr43 := rg_63_9 hI40
    refine s_if_ne (t := 26) kx_210_22 (by decide) (fun hc44 => ?_) (fun hc44 => ?_)
    · have hc45 := v39p.2.2.2.resolve_right (by omega)
      have hc45a := hc45.2.1
      refine s_aload_n kx_210_26 rfl ?_
      refine r_getR (k := 63) (f := 25) (k2 := 75) kx_210_27 kp_210_87 (tk_63 hT) kf_12_25 (by decide) (rq_63_25 hI40) ?_
      refine s_aload_n kx_210_30 rfl ?_
      refine r_getK (k := 63) (f := 36) kx_210_31 kp_210_121 (tk_63 hT) kf_12_36 (fun _ => rfl) ((fr40 63 36 rfl).trans v1e) ?_
      refine s_aload_n kx_210_34 rfl ?_
      refine r_getI (k := 63) (f := 35) kx_210_35 kp_210_118 (tk_63 hT) kf_12_35 (fun _ => rfl) (rg_63_35 hI40) (fun v46 v46e v46a v46b => ?_)
      have v46z : M 63 35 = v46 := ((fr40 63 35 rfl)).symm.trans v46e
      have h3647 : M40 63 36 = v1 := ((fr40 63 36 rfl).trans v1e)
      refine r_ast (k := 75) kx_210_38 (tk_75 hT) ⟨by omega, by omega⟩ hI40 (ru_75 (by omega) (by omega)) (fun M48 hI48 u48 => ?_)
      have hFm48 := hFm40.up u48 rfl
      have tr49 := (u48.2 63 3 (by omega))
      have tr50 := (u48.2 63 4 (by omega))
      have tr51 := (u48.2 63 5 (by omega))
      have tr52 := (u48.2 63 9 (by omega))
      have tr53 := (u48.2 63 35 (by omega))
      have tr54 := (u48.2 63 36 (by omega))
      have hkx55 := (KB.up1 (KB.fr hKX fr40 rfl) u48 (by decide) ⟨by omega, by omega⟩)
      refine s_aload_n kx_210_39 rfl ?_
      refine s_iconst (v := 0) kx_210_40 (by decide) ?_
      refine s_callV2 (k := 63) (s1 := 2) (s2 := 0) (as := [(0, 0)]) (rest := []) kx_210_41 kp_210_410 (Or.inl rfl) rfl (tk_63 hT) ki_198 kcl_198 rfl rfl (by decide) (f_198 (d := d) (test := 0) hT hI48 (LXp.up v39p.1 u48 (Or.inl (by decide))) hn (LyA.up (Yst.z (show Yst M40 s n 0 (owE s n q) from Or.inr ⟨rfl, hc45.2.1.2.2, hc45.2.2⟩)).2 u48 ⟨by decide, Or.inl (by decide)⟩) (by omega)  hkx55 (by omega) (by omega)) (kV (fun M57 hI57 fr57 v56p => ?_))
      have hFm57 := hFm48.call fr57 rfl
      have tr58 := (fr57 63 36 rfl)
      have tr59 := rg_63_9 hI57
      have v56pk := v56p.2
      (replace v56p := v56p.1)
      have hOld60 := And.intro v56p.1 (And.intro v56p.2.1 (And.intro v56p.2.2.1 v56p.2.2.2.1))
      have hO61 := KO.rd (KO.up (KO.fr (KO.refl (M := M)) fr40 rfl) u48 (by decide) (Or.inl (by omega))) ((u48.2 63 36 (by omega)).trans (fr40 63 36 rfl)) fr57 rfl hOld60.2.2.2.2
      have hr62 := hOld60.2.2.2.1
      have tr63 := ((fr57 63 36 rfl).trans ((u48.2 63 36 (by omega)).trans (fr40 63 36 rfl)))
      refine s_aload_n kx_210_44 rfl ?_
      refine r_getR (k := 63) (f := 26) (k2 := 76) kx_210_45 kp_210_90 (tk_63 hT) kf_12_26 (by decide) (rq_63_26 hI57) ?_
      refine s_aload_n kx_210_48 rfl ?_
      refine r_getK (k := 63) (f := 36) kx_210_49 kp_210_121 (tk_63 hT) kf_12_36 (fun _ => rfl) ((fr57 63 36 rfl).trans ((u48.2 63 36 (by omega)).trans ((fr40 63 36 rfl).trans v1e))) ?_
      refine s_aload_n kx_210_52 rfl ?_
      refine r_getI (k := 63) (f := 35) kx_210_53 kp_210_118 (tk_63 hT) kf_12_35 (fun _ => rfl) (rg_63_35 hI57) (fun v64 v64e v64a v64b => ?_)
      refine r_ast (k := 76) kx_210_56 (tk_76 hT) ⟨by omega, by omega⟩ hI57 (ru_76 (by omega) (by omega)) (fun M65 hI65 u65 => ?_)
      have hFm65 := hFm57.up u65 rfl
      have tr66 := (u65.2 63 3 (by omega))
      have tr67 := (u65.2 63 4 (by omega))
      have tr68 := (u65.2 63 5 (by omega))
      have tr69 := (u65.2 63 9 (by omega))
      have tr70 := (u65.2 63 35 (by omega))
      have tr71 := (u65.2 63 36 (by omega))
      have hkx72 := (KB.up1 v56pk u65 (by decide) ⟨by omega, by omega⟩)
      exact s_vret kx_210_57 kq_210 ⟨_, rfl, rfl, hI65, hFm65, ⟨⟨(LXp.up v56p.1 u65 (Or.inl (by decide))), (by omega), (by omega), ⟨(if h9 : 1 ≤ M65 63 9 then Or.inl h9 else Or.inr ⟨by omega, ⟨(TS_put (x := 75) (y := 76) (z := 77) (w := 78) (by decide) (TSg.fr hS (rg_63_36 hI).1 fr40 rfl).2 ((fr40 63 36 rfl).trans v1e) v46e (by omega) (by omega) u48 fr57 rfl rfl hOld60.2.2.2.1 (by omega) v64e u65).1, (TS_put (x := 75) (y := 76) (z := 77) (w := 78) (by decide) (TSg.fr hS (rg_63_36 hI).1 fr40 rfl).2 ((fr40 63 36 rfl).trans v1e) v46e (by omega) (by omega) u48 fr57 rfl rfl hOld60.2.2.2.1 (by omega) v64e u65).2⟩, by have hq := (Or.resolve_left (show _ ∨ _ from hOld60.2.2.2.1) (by omega)).2.1; omega⟩), (KO.up hO61 u65 (by decide) (Or.inl (by omega)))⟩, (Or.inr ⟨(hR.2.2.2.2.2.2.1).mpr (by rw [v1e]; omega), RsX.up v56p.2.2.2.2 u65 (by decide) (fun h9 c hc => cdr_put (j' := 12) (by decide) (CDR.fr hCD fr40 rfl) (by omega) ((fr40 63 36 rfl).trans v1e) (by omega) v46e u48 fr57 rfl rfl hOld60.2.2.2.1 (by omega) v64e u65 (TSg.fr hS (rg_63_36 hI).1 fr40 rfl).2 hc), fun _ cx => (RSD.up (RSD.fr (RSD.s75 (RSD.fr hR fr40 rfl) ((fr40 63 36 rfl).trans v1e) u48 (by omega) cx) fr57 rfl) u65 (by omega))⟩)⟩, hkx72⟩⟩
    · have hc73 := v39p.2.2.2.resolve_left (by omega)
      have hc73a := hc73.2.1
      exact s_vret kx_210_25 kq_210 ⟨_, rfl, rfl, hI40, hFm40, ⟨⟨v39p.1, (by omega), (by omega), ⟨Or.inl (by omega), (KO.fr (KO.refl (M := M)) fr40 rfl)⟩, (Or.inl ⟨fun z => by have hz := (hR.2.2.2.2.2.2.1).mp z; rw [v1e] at hz; omega, hc73.2.2.1⟩)⟩, (KB.fr hKX fr40 rfl)⟩⟩
def gS_211_m : List (Nat × Nat) := [(63, 10), (63, 13), (63, 3), (63, 35), (63, 4), (63, 42), (63, 43), (63, 45), (63, 46), (63, 5), (63, 6), (63, 7), (63, 8), (63, 9), (77, 99999), (78, 99999), (81, 99999), (82, 99999), (85, 99999), (86, 99999), (87, 99999), (88, 99999), (89, 99999), (90, 99999)]
theorem f_211 {xs : Nat → Int} {Ln d : Nat} {T : List cK} {M : cM} (hT : TT T) (hI : Rng M) (hX : LXp M) {s : Nat → Int} {n q : Int} {D : cM} (hY : Yst M s n 0 q) (hn : n ≤ 1600) (hR : RSD M D) (hS : TSg M) {ci : Int} (hci : ci = M 63 36) (hCD : CDR ci M D) {bX : Int} {WX : cM} (hKX : KB bX WX M) (p0 : M 63 4 + 1 ≤ M 63 5) (p1 : M 63 35 ≤ M 63 4) : cC k_P xs Ln (d + 5) 211 [rf 63] (T, M) (qV T M gS_211_m (fun M1 => (LXp M1 ∧ M 63 4 ≤ M1 63 4 ∧ M 63 9 ≤ M1 63 9 ∧ (SLd M M1 ∧ KO M M1) ∧ ((D 12 0 ≠ 0 ∧ (60000 + owB s n q ≠ 0 ∧ FlY M1 (60000 + owB s n q))) ∨ (D 12 0 = 0 ∧ RsX M1 s n (owE s n q) (fun c => CDR ci M1 (owFg D 12 c)) ∧ (M1 63 9 = 0 → ∀ c, RSD M1 (owFg D 12 c))))) ∧ KB bX WX M1)) := by
  show cP k_P xs Ln (d + 5) 211 0 [(0, rf 63)] [] (T, M) _
  have hFm : Fr gS_211_m M M := Fr.refl
  have h639 := rg_63_9 hI
  have ⟨lx1, lx2⟩ := hX
  have h36 := rg_63_36 hI
  have h35 := rg_63_35 hI
  have hz9 := hY.z.1
  have hkx1 := hKX.1
  have hkx2 := hKX.2.1
  have hkx3 := hKX.2.2.1
  refine s_aload_n kx_211_0 rfl ?_
  refine s_aload_n kx_211_1 rfl ?_
  refine r_getR (k := 63) (f := 27) (k2 := 77) kx_211_2 kp_211_93 (tk_63 hT) kf_12_27 (by decide) (rq_63_27 hI) ?_
  refine s_aload_n kx_211_5 rfl ?_
  refine r_getI (k := 63) (f := 36) kx_211_6 kp_211_121 (tk_63 hT) kf_12_36 (fun _ => rfl) (rg_63_36 hI) (fun v1 v1e v1a v1b => ?_)
  refine r_ald (k := 77) kx_211_9 (tk_77 hT) ⟨by omega, by omega⟩ (rg_77 hI) (fun v2 v2e v2a v2b => ?_)
  refine s_iconst (v := (-1)) kx_211_10 (by decide) ?_
  refine s_icmp_eq (t := 18) kx_211_11 (by decide) (fun hc3 => ?_) (fun hc3 => ?_)
  · refine s_iconst (v := 0) kx_211_18 (by decide) ?_
    refine s_callV2 (k := 63) (s1 := 2) (s2 := 0) (as := [(0, 0)]) (rest := []) kx_211_19 kp_211_386 (Or.inl rfl) rfl (tk_63 hT) ki_199 kcl_199 rfl rfl (by decide) (f_199 (d := d + 2) (full := 0) hT hI hX hY hn (by omega)) (kW (fun v4 M5 hI5 fr5 v4p => ?_))
    have hFm5 := hFm.call fr5 rfl
    have tr6 := (fr5 63 35 rfl)
    have tr7 := (fr5 63 36 rfl)
    have tr8 := rg_63_9 hI5
    refine s_if_ne (t := 26) kx_211_22 (by decide) (fun hc9 => ?_) (fun hc9 => ?_)
    · have hc10 := v4p.2.2.2.resolve_right (by omega)
      have hc10a := hc10.2.1
      refine s_aload_n kx_211_26 rfl ?_
      refine r_getR (k := 63) (f := 27) (k2 := 77) kx_211_27 kp_211_93 (tk_63 hT) kf_12_27 (by decide) (rq_63_27 hI5) ?_
      refine s_aload_n kx_211_30 rfl ?_
      refine r_getK (k := 63) (f := 36) kx_211_31 kp_211_121 (tk_63 hT) kf_12_36 (fun _ => rfl) ((fr5 63 36 rfl).trans v1e) ?_
      refine s_aload_n kx_211_34 rfl ?_
      refine r_getI (k := 63) (f := 35) kx_211_35 kp_211_118 (tk_63 hT) kf_12_35 (fun _ => rfl) (rg_63_35 hI5) (fun v11 v11e v11a v11b => ?_)
      have v11z : M 63 35 = v11 := ((fr5 63 35 rfl)).symm.trans v11e
      have h3612 : M5 63 36 = v1 := ((fr5 63 36 rfl).trans v1e)
      refine r_ast (k := 77) kx_211_38 (tk_77 hT) ⟨by omega, by omega⟩ hI5 (ru_77 (by omega) (by omega)) (fun M13 hI13 u13 => ?_)
      have hFm13 := hFm5.up u13 rfl
      have tr14 := (u13.2 63 3 (by omega))
      have tr15 := (u13.2 63 4 (by omega))
      have tr16 := (u13.2 63 5 (by omega))
      have tr17 := (u13.2 63 9 (by omega))
      have tr18 := (u13.2 63 35 (by omega))
      have tr19 := (u13.2 63 36 (by omega))
      have hkx20 := (KB.up1 (KB.fr hKX fr5 rfl) u13 (by decide) ⟨by omega, by omega⟩)
      refine s_aload_n kx_211_39 rfl ?_
      refine s_iconst (v := 0) kx_211_40 (by decide) ?_
      refine s_callV2 (k := 63) (s1 := 2) (s2 := 0) (as := [(0, 0)]) (rest := []) kx_211_41 kp_211_410 (Or.inl rfl) rfl (tk_63 hT) ki_198 kcl_198 rfl rfl (by decide) (f_198 (d := d) (test := 0) hT hI13 (LXp.up v4p.1 u13 (Or.inl (by decide))) hn (LyA.up (Yst.z (show Yst M5 s n 0 (owE s n q) from Or.inr ⟨rfl, hc10.2.1.2.2, hc10.2.2⟩)).2 u13 ⟨by decide, Or.inl (by decide)⟩) (by omega)  hkx20 (by omega) (by omega)) (kV (fun M22 hI22 fr22 v21p => ?_))
      have hFm22 := hFm13.call fr22 rfl
      have tr23 := (fr22 63 36 rfl)
      have tr24 := rg_63_9 hI22
      have v21pk := v21p.2
      (replace v21p := v21p.1)
      have hOld25 := And.intro v21p.1 (And.intro v21p.2.1 (And.intro v21p.2.2.1 v21p.2.2.2.1))
      have hO26 := KO.rd (KO.up (KO.fr (KO.refl (M := M)) fr5 rfl) u13 (by decide) (Or.inl (by omega))) ((u13.2 63 36 (by omega)).trans (fr5 63 36 rfl)) fr22 rfl hOld25.2.2.2.2
      have hr27 := hOld25.2.2.2.1
      have tr28 := ((fr22 63 36 rfl).trans ((u13.2 63 36 (by omega)).trans (fr5 63 36 rfl)))
      refine s_aload_n kx_211_44 rfl ?_
      refine r_getR (k := 63) (f := 28) (k2 := 78) kx_211_45 kp_211_96 (tk_63 hT) kf_12_28 (by decide) (rq_63_28 hI22) ?_
      refine s_aload_n kx_211_48 rfl ?_
      refine r_getK (k := 63) (f := 36) kx_211_49 kp_211_121 (tk_63 hT) kf_12_36 (fun _ => rfl) ((fr22 63 36 rfl).trans ((u13.2 63 36 (by omega)).trans ((fr5 63 36 rfl).trans v1e))) ?_
      refine s_aload_n kx_211_52 rfl ?_
      refine r_getI (k := 63) (f := 35) kx_211_53 kp_211_118 (tk_63 hT) kf_12_35 (fun _ => rfl) (rg_63_35 hI22) (fun v29 v29e v29a v29b => ?_)
      refine r_ast (k := 78) kx_211_56 (tk_78 hT) ⟨by omega, by omega⟩ hI22 (ru_78 (by omega) (by omega)) (fun M30 hI30 u30 => ?_)
      have hFm30 := hFm22.up u30 rfl
      have tr31 := (u30.2 63 3 (by omega))
      have tr32 := (u30.2 63 4 (by omega))
      have tr33 := (u30.2 63 5 (by omega))
      have tr34 := (u30.2 63 9 (by omega))
      have tr35 := (u30.2 63 35 (by omega))
      have tr36 := (u30.2 63 36 (by omega))
      have hkx37 := (KB.up1 v21pk u30 (by decide) ⟨by omega, by omega⟩)
      exact s_vret kx_211_57 kq_211 ⟨_, rfl, rfl, hI30, hFm30, ⟨⟨(LXp.up v21p.1 u30 (Or.inl (by decide))), (by omega), (by omega), ⟨(if h9 : 1 ≤ M30 63 9 then Or.inl h9 else Or.inr ⟨by omega, ⟨(TS_put (x := 77) (y := 78) (z := 75) (w := 76) (by decide) (TSg.fr hS (rg_63_36 hI).1 fr5 rfl).1 ((fr5 63 36 rfl).trans v1e) v11e (by omega) (by omega) u13 fr22 rfl rfl hOld25.2.2.2.1 (by omega) v29e u30).2, (TS_put (x := 77) (y := 78) (z := 75) (w := 76) (by decide) (TSg.fr hS (rg_63_36 hI).1 fr5 rfl).1 ((fr5 63 36 rfl).trans v1e) v11e (by omega) (by omega) u13 fr22 rfl rfl hOld25.2.2.2.1 (by omega) v29e u30).1⟩, by have hq := (Or.resolve_left (show _ ∨ _ from hOld25.2.2.2.1) (by omega)).2.1; omega⟩), (KO.up hO26 u30 (by decide) (Or.inl (by omega)))⟩, (Or.inr ⟨(hR.2.2.2.2.2.2.2.1).mpr (by rw [v1e]; omega), RsX.up v21p.2.2.2.2 u30 (by decide) (fun h9 c hc => cdr_put (j' := 11) (by decide) (CDR.fr hCD fr5 rfl) (by omega) ((fr5 63 36 rfl).trans v1e) (by omega) v11e u13 fr22 rfl rfl hOld25.2.2.2.1 (by omega) v29e u30 (TSg.fr hS (rg_63_36 hI).1 fr5 rfl).1 hc), fun _ cx => (RSD.up (RSD.fr (RSD.s77 (RSD.fr hR fr5 rfl) ((fr5 63 36 rfl).trans v1e) u13 (by omega) cx) fr22 rfl) u30 (by omega))⟩)⟩, hkx37⟩⟩
    · have hc38 := v4p.2.2.2.resolve_left (by omega)
      have hc38a := hc38.2.1
      exact s_vret kx_211_25 kq_211 ⟨_, rfl, rfl, hI5, hFm5, ⟨⟨v4p.1, (by omega), (by omega), ⟨Or.inl (by omega), (KO.fr (KO.refl (M := M)) fr5 rfl)⟩, (Or.inl ⟨fun z => by have hz := (hR.2.2.2.2.2.2.2.1).mp z; rw [v1e] at hz; omega, hc38.2.2.1⟩)⟩, (KB.fr hKX fr5 rfl)⟩⟩
  · refine s_iconst (v := 1) kx_211_14 (by decide) ?_
    refine s_goto (t := 19) kx_211_15 (by decide) ?_
    refine s_callV2 (k := 63) (s1 := 2) (s2 := 0) (as := [(0, 1)]) (rest := []) kx_211_19 kp_211_386 (Or.inl rfl) rfl (tk_63 hT) ki_199 kcl_199 rfl rfl (by decide) (f_199 (d := d + 2) (full := 1) hT hI hX hY hn (by omega)) (kW (fun v39 M40 hI40 fr40 v39p => ?_))
    have hFm40 := hFm.call fr40 rfl
    have tr41 := (fr40 63 35 rfl)
    have tr42 := (fr40 63 36 rfl)
    have tr43 := rg_63_9 hI40
    refine s_if_ne (t := 26) kx_211_22 (by decide) (fun hc44 => ?_) (fun hc44 => ?_)
    · have hc45 := v39p.2.2.2.resolve_right (by omega)
      have hc45a := hc45.2.1
      refine s_aload_n kx_211_26 rfl ?_
      refine r_getR (k := 63) (f := 27) (k2 := 77) kx_211_27 kp_211_93 (tk_63 hT) kf_12_27 (by decide) (rq_63_27 hI40) ?_
      refine s_aload_n kx_211_30 rfl ?_
      refine r_getK (k := 63) (f := 36) kx_211_31 kp_211_121 (tk_63 hT) kf_12_36 (fun _ => rfl) ((fr40 63 36 rfl).trans v1e) ?_
      refine s_aload_n kx_211_34 rfl ?_
      refine r_getI (k := 63) (f := 35) kx_211_35 kp_211_118 (tk_63 hT) kf_12_35 (fun _ => rfl) (rg_63_35 hI40) (fun v46 v46e v46a v46b => ?_)
      have v46z : M 63 35 = v46 := ((fr40 63 35 rfl)).symm.trans v46e
      have h3647 : M40 63 36 = v1 := ((fr40 63 36 rfl).trans v1e)
      refine r_ast (k := 77) kx_211_38 (tk_77 hT) ⟨by omega, by omega⟩ hI40 (ru_77 (by omega) (by omega)) (fun M48 hI48 u48 => ?_)
      have hFm48 := hFm40.up u48 rfl
      have tr49 := (u48.2 63 3 (by omega))
      have tr50 := (u48.2 63 4 (by omega))
      have tr51 := (u48.2 63 5 (by omega))
      have tr52 := (u48.2 63 9 (by omega))
      have tr53 := (u48.2 63 35 (by omega))
      have tr54 := (u48.2 63 36 (by omega))
      have hkx55 := (KB.up1 (KB.fr hKX fr40 rfl) u48 (by decide) ⟨by omega, by omega⟩)
      refine s_aload_n kx_211_39 rfl ?_
      refine s_iconst (v := 0) kx_211_40 (by decide) ?_
      refine s_callV2 (k := 63) (s1 := 2) (s2 := 0) (as := [(0, 0)]) (rest := []) kx_211_41 kp_211_410 (Or.inl rfl) rfl (tk_63 hT) ki_198 kcl_198 rfl rfl (by decide) (f_198 (d := d) (test := 0) hT hI48 (LXp.up v39p.1 u48 (Or.inl (by decide))) hn (LyA.up (Yst.z (show Yst M40 s n 0 (owE s n q) from Or.inr ⟨rfl, hc45.2.1.2.2, hc45.2.2⟩)).2 u48 ⟨by decide, Or.inl (by decide)⟩) (by omega)  hkx55 (by omega) (by omega)) (kV (fun M57 hI57 fr57 v56p => ?_))
      have hFm57 := hFm48.call fr57 rfl
      have tr58 := (fr57 63 36 rfl)
      have tr59 := rg_63_9 hI57
      have v56pk := v56p.2
      (replace v56p := v56p.1)
      have hOld60 := And.intro v56p.1 (And.intro v56p.2.1 (And.intro v56p.2.2.1 v56p.2.2.2.1))
      have hO61 := KO.rd (KO.up (KO.fr (KO.refl (M := M)) fr40 rfl) u48 (by decide) (Or.inl (by omega))) ((u48.2 63 36 (by omega)).trans (fr40 63 36 rfl)) fr57 rfl hOld60.2.2.2.2
      have hr62 := hOld60.2.2.2.1
      have tr63 := ((fr57 63 36 rfl).trans ((u48.2 63 36 (by omega)).trans (fr40 63 36 rfl)))
      refine s_aload_n kx_211_44 rfl ?_
      refine r_getR (k := 63) (f := 28) (k2 := 78) kx_211_45 kp_211_96 (tk_63 hT) kf_12_28 (by decide) (rq_63_28 hI57) ?_
      refine s_aload_n kx_211_48 rfl ?_
      refine r_getK (k := 63) (f := 36) kx_211_49 kp_211_121 (tk_63 hT) kf_12_36 (fun _ => rfl) ((fr57 63 36 rfl).trans ((u48.2 63 36 (by omega)).trans ((fr40 63 36 rfl).trans v1e))) ?_
      refine s_aload_n kx_211_52 rfl ?_
      refine r_getI (k := 63) (f := 35) kx_211_53 kp_211_118 (tk_63 hT) kf_12_35 (fun _ => rfl) (rg_63_35 hI57) (fun v64 v64e v64a v64b => ?_)
      refine r_ast (k := 78) kx_211_56 (tk_78 hT) ⟨by omega, by omega⟩ hI57 (ru_78 (by omega) (by omega)) (fun M65 hI65 u65 => ?_)
      have hFm65 := hFm57.up u65 rfl
      have tr66 := (u65.2 63 3 (by omega))
      have tr67 := (u65.2 63 4 (by omega))
      have tr68 := (u65.2 63 5 (by omega))
      have tr69 := (u65.2 63 9 (by omega))
      have tr70 := (u65.2 63 35 (by omega))
      have tr71 := (u65.2 63 36 (by omega))
      have hkx72 := (KB.up1 v56pk u65 (by decide) ⟨by omega, by omega⟩)
      exact s_vret kx_211_57 kq_211 ⟨_, rfl, rfl, hI65, hFm65, ⟨⟨(LXp.up v56p.1 u65 (Or.inl (by decide))), (by omega), (by omega), ⟨(if h9 : 1 ≤ M65 63 9 then Or.inl h9 else Or.inr ⟨by omega, ⟨(TS_put (x := 77) (y := 78) (z := 75) (w := 76) (by decide) (TSg.fr hS (rg_63_36 hI).1 fr40 rfl).1 ((fr40 63 36 rfl).trans v1e) v46e (by omega) (by omega) u48 fr57 rfl rfl hOld60.2.2.2.1 (by omega) v64e u65).2, (TS_put (x := 77) (y := 78) (z := 75) (w := 76) (by decide) (TSg.fr hS (rg_63_36 hI).1 fr40 rfl).1 ((fr40 63 36 rfl).trans v1e) v46e (by omega) (by omega) u48 fr57 rfl rfl hOld60.2.2.2.1 (by omega) v64e u65).1⟩, by have hq := (Or.resolve_left (show _ ∨ _ from hOld60.2.2.2.1) (by omega)).2.1; omega⟩), (KO.up hO61 u65 (by decide) (Or.inl (by omega)))⟩, (Or.inr ⟨(hR.2.2.2.2.2.2.2.1).mpr (by rw [v1e]; omega), RsX.up v56p.2.2.2.2 u65 (by decide) (fun h9 c hc => cdr_put (j' := 11) (by decide) (CDR.fr hCD fr40 rfl) (by omega) ((fr40 63 36 rfl).trans v1e) (by omega) v46e u48 fr57 rfl rfl hOld60.2.2.2.1 (by omega) v64e u65 (TSg.fr hS (rg_63_36 hI).1 fr40 rfl).1 hc), fun _ cx => (RSD.up (RSD.fr (RSD.s77 (RSD.fr hR fr40 rfl) ((fr40 63 36 rfl).trans v1e) u48 (by omega) cx) fr57 rfl) u65 (by omega))⟩)⟩, hkx72⟩⟩
    · have hc73 := v39p.2.2.2.resolve_left (by omega)
      have hc73a := hc73.2.1
      exact s_vret kx_211_25 kq_211 ⟨_, rfl, rfl, hI40, hFm40, ⟨⟨v39p.1, (by omega), (by omega), ⟨Or.inl (by omega), (KO.fr (KO.refl (M := M)) fr40 rfl)⟩, (Or.inl ⟨fun z => by have hz := (hR.2.2.2.2.2.2.2.1).mp z; rw [v1e] at hz; omega, hc73.2.2.1⟩)⟩, (KB.fr hKX fr40 rfl)⟩⟩
