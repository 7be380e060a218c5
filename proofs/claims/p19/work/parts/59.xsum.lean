/-! the class's readers of sums -/
theorem Gm.row {T : List cK} {M : cM} (h : Gm T M) {f : Nat} (hf : fF f) (i : Nat) : fRw M f i = M (M f 1).toNat i := by
  obtain ⟨n, h1, _⟩ := h
  obtain ⟨s, a, _, _, _, _, b⟩ := h1 f hf
  exact if_pos (by omega)
/-- the other formulas stay -/
def OFp (f : Nat) (M M1 : cM) : Prop := ∀ g, fF g → g ≠ f → M1 g 2 = M g 2 ∧ ∀ i, fRw M1 g i = fRw M g i
theorem OFp.refl {f : Nat} {M : cM} : OFp f M M := fun _ _ _ => ⟨rfl, fun _ => rfl⟩
theorem OFp.trans {f : Nat} {M M1 M2 : cM} (h : OFp f M M1) (g : OFp f M1 M2) : OFp f M M2 := fun a b c => ⟨(g a b c).1.trans (h a b c).1, fun i => ((g a b c).2 i).trans ((h a b c).2 i)⟩
theorem OFp.fr {S : List (Nat × Nat)} {f : Nat} {M M1 M2 : cM} (h : OFp f M M1) (g : Fr S M1 M2) (hs : frk S = true) : OFp f M M2 := fun a b c => by
  have h1 := fRw_fr b g hs
  exact ⟨h1.2.1.trans (h a b c).1, fun i => (h1.2.2 i).trans ((h a b c).2 i)⟩
theorem OFp.cd {f g : Nat} {M M1 : cM} (h : OFp f M M1) (hg : fF g) (hne : g ≠ f) : ∀ i, fCd M1 g i = fCd M g i := fun i => by
  have h1 := h g hg hne
  unfold fCd
  rw [h1.1, h1.2]
/-- a formula has grown by some codes (newest first) -/
def FCg (f : Nat) (M M1 : cM) (c : List Int) : Prop := 0 ≤ M f 2 ∧ M1 f 2 = M f 2 + (c.length : Int) ∧ (∀ i : Nat, (i : Int) < M f 2 → fRw M1 f i = fRw M f i) ∧ ∀ i : Nat, i < c.length → fRw M1 f ((M f 2).toNat + i) = c.reverse.getD i 0
section FCG
variable {f : Nat} {M M1 M2 : cM} {c u w : List Int} {v x : Int}
theorem FCg.refl (h0 : 0 ≤ M f 2) : FCg f M M [] := ⟨h0, (Int.add_zero _).symm, fun _ _ => rfl, fun i hi => absurd hi (Nat.not_lt_zero _)⟩
theorem FCg.fr {S : List (Nat × Nat)} (h : FCg f M M1 c) (hf : fF f) (g : Fr S M1 M2) (hs : frk S = true) : FCg f M M2 c := by
  have h2 := fRw_fr hf g hs
  exact ⟨h.1, h2.2.1.trans h.2.1, fun i hi => (h2.2.2 i).trans (h.2.2.1 i hi), fun i hi => (h2.2.2 _).trans (h.2.2.2 i hi)⟩
theorem FCg.trans (h : FCg f M M1 u) (g : FCg f M1 M2 w) : FCg f M M2 (w ++ u) := by
  obtain ⟨h2, h3, h4, h5⟩ := h
  obtain ⟨g2, g3, g4, g5⟩ := g
  refine ⟨h2, ?_, fun i hi => ?_, fun i hi => ?_⟩
  · rw [g3, h3, List.length_append]
    omega
  · rw [g4 i (by omega), h4 i hi]
  · rw [List.length_append] at hi
    rw [List.reverse_append, List.getD_eq_getElem?_getD, List.getElem?_append, List.length_reverse]
    by_cases e : i < u.length
    · rw [if_pos e, ← List.getD_eq_getElem?_getD, g4 _ (by omega)]
      exact h5 i e
    · rw [if_neg e, ← List.getD_eq_getElem?_getD, ← g5 (i - u.length) (by omega)]
      congr 1
      omega
theorem FCg.trans0 (h : FCg f M M1 []) (g : FCg f M1 M2 w) : FCg f M M2 w := by
  have := h.trans g
  rw [List.append_nil] at this
  exact this
theorem FCg.sub1 (h : FCg f M M1 [v]) (e : v = x) : FCg f M M1 [x] := e ▸ h
theorem FCg.op (h : FCg f M M1 ([v] ++ u)) (e : v = x) : FCg f M M1 (x :: u) := e ▸ h
theorem FCg.add {T T1 : List cK} (hf : fF f) (h0 : 0 ≤ M f 2) (hG : Gm T M) (hG1 : Gm T1 M1) (h2 : M1 f 2 = M f 2 + 1) (h : Ad f v M M1) : FCg f M M1 [v] := by
  obtain ⟨a, b, _⟩ := h
  refine ⟨h0, h2, fun i hi => ?_, fun i hi => ?_⟩
  · rw [hG.row hf, hG1.row hf]
    exact a i hi
  · have hi0 : i = 0 := Nat.lt_one_iff.mp hi
    subst hi0
    rw [hG1.row hf]
    exact b
theorem OFp.add {T T1 : List cK} (hG : Gm T M) (hG1 : Gm T1 M1) (h : Ad f v M M1) : OFp f M M1 := by
  obtain ⟨_, _, h⟩ := h
  refine fun g hg hne => ?_
  obtain ⟨a, b, c⟩ := h g hg hne
  refine ⟨b, fun i => ?_⟩
  rw [hG.row hg, hG1.row hg, a]
  exact c i
/-- from nothing: the codes stand in the formula -/
theorem FCg.cd (h : FCg f M M1 c) (h0 : M f 2 = 0) (hn : 1 ≤ M1 f 2) (i : Nat) : fCd M1 f i = if i = 0 then (c.length : Int) + 1 else c.reverse.getD (i - 1) 0 := by
  obtain ⟨h2, h3, h4, h5⟩ := h
  unfold fCd
  by_cases e : i = 0
  · rw [if_pos e, if_pos e, if_neg (by omega)]
    omega
  · rw [if_neg e, if_neg e]
    by_cases g : i - 1 < c.length
    · rw [if_pos (by omega), ← h5 _ g, h0]
      congr 1
      omega
    · rw [if_neg (by omega), List.getD_eq_getElem?_getD, List.getElem?_eq_none (by rw [List.length_reverse]; omega)]
      rfl
end FCG
def SumC (M : cM) (s : Nat → Int) (n p i : Int) (Ok : List Int → Int → Prop) (c : List Int) : Prop := ∃ q, LxA M s n q ∧ p + i + 1 ≤ q ∧ Ok c q
def SumO (M0 : cM) (f : Nat) (M : cM) (s : Nat → Int) (n p i : Int) (Ok : List Int → Int → Prop) : Prop := ∃ c q, LxA M s n q ∧ p + i + 1 ≤ q ∧ Ok c q ∧ FCg f M0 M c
theorem SumC.fr {S : List (Nat × Nat)} {M M1 : cM} {s : Nat → Int} {n p i : Int} {Ok : List Int → Int → Prop} {c : List Int} (h : SumC M s n p i Ok c) (g : Fr S M M1) (hs : (S.all fun q => q.1 != 2 && q.1 != 5) = true) : SumC M1 s n p i Ok c := by
  obtain ⟨q, h1, h2⟩ := h
  exact ⟨q, h1.fr g hs, h2⟩
theorem SumC.o {M0 M : cM} {f : Nat} {s : Nat → Int} {n p i : Int} {Ok : List Int → Int → Prop} {c : List Int} (h : SumC M s n p i Ok c) (g : FCg f M0 M c) : SumO M0 f M s n p i Ok := by
  obtain ⟨q, h1, h2, h3⟩ := h
  exact ⟨c, q, h1, h2, h3, g⟩
def SumX (M : cM) (Fx : Int → Prop) : Prop := ∃ g, g ≠ 0 ∧ Flt M g ∧ Fx g
theorem Flt.fr {S : List (Nat × Nat)} {M M1 : cM} {f : Int} (h : Flt M f) (g : Fr S M M1) (hs : (S.all fun q => q.1 != 2 && q.1 != 5) = true) : Flt M1 f := by
  have h5 : ∀ f, M1 5 f = M 5 f := fun f => g 5 f (nin (by decide) (List.all_eq_true.mpr fun q hq => by have := List.all_eq_true.mp hs q hq; simp at this ⊢; omega) f)
  unfold Flt
  rw [h5, h5]
  exact h
theorem SumX.fr {S : List (Nat × Nat)} {M M1 : cM} {Fx : Int → Prop} (h : SumX M Fx) (g : Fr S M M1) (hs : (S.all fun q => q.1 != 2 && q.1 != 5) = true) : SumX M1 Fx := by
  obtain ⟨f, h1, h2, h3⟩ := h
  exact ⟨f, h1, h2.fr g hs, h3⟩
theorem SumX.mono {M : cM} {Fx Gx : Int → Prop} (h : SumX M Fx) (g : ∀ f, Fx f → Gx f) : SumX M Gx := by
  obtain ⟨f, h1, h2, h3⟩ := h
  exact ⟨f, h1, h2, g f h3⟩
theorem SumX.un {M : cM} {Fx : Int → Prop} {s : Nat → Int} {n p : Int} (h : Flt M (owU s n p)) (h0 : 0 ≤ p) (g : Fx (owU s n p)) : SumX M Fx := ⟨_, by have := owU_pos (s := s) (n := n) h0; omega, h, g⟩
/-- what opens tells -/
def OpX (s : Nat → Int) (n p c o g : Int) : Prop := (owG s n p c = 0 ∧ g = owU s n p) ∨ (owG s n p c = 1 ∧ 7 ≤ o ∧ g = 50000 + owB s n p)
section AOS
variable {s : Nat → Int} {n p : Int}
theorem ao_42 (h : owG s n p 42 = 1) : owAo s n p = 12 := by
  unfold owAo
  rw [if_neg (by rw [owG_ne h (by decide)]; decide), if_neg (by rw [owG_ne h (by decide)]; decide), if_pos h]
theorem ao_47 (h : owG s n p 47 = 1) : owAo s n p = 13 := by
  unfold owAo
  rw [if_neg (by rw [owG_ne h (by decide)]; decide), if_neg (by rw [owG_ne h (by decide)]; decide), if_neg (by rw [owG_ne h (by decide)]; decide), if_pos h]
theorem ao_37 (h : owG s n p 37 = 1) : owAo s n p = 14 := by
  unfold owAo
  rw [if_neg (by rw [owG_ne h (by decide)]; decide), if_neg (by rw [owG_ne h (by decide)]; decide), if_neg (by rw [owG_ne h (by decide)]; decide), if_neg (by rw [owG_ne h (by decide)]; decide), if_pos h]
theorem ao_43 (h : owG s n p 43 = 1) : owAo s n p = 10 := by
  unfold owAo
  rw [if_pos h]
theorem ao_45 (h : owG s n p 45 = 1) : owAo s n p = 11 := by
  unfold owAo
  rw [if_neg (by rw [owG_ne h (by decide)]; decide), if_pos h]
theorem ao_n6 (h1 : owG s n p 42 = 0) (h2 : owG s n p 47 = 0) (h3 : owG s n p 37 = 0) : ¬ 12 ≤ owAo s n p := by
  unfold owAo
  (repeat' split) <;> omega
theorem ao_n5 (h : ¬ 12 ≤ owAo s n p) (h1 : owG s n p 43 = 0) (h2 : owG s n p 45 = 0) : owAo s n p = 0 := by
  unfold owAo at h ⊢
  (repeat' split) <;> (repeat' split at h) <;> omega
theorem co_60 (h : owG s n p 60 = 1) : owCo s n p = 17 := by unfold owCo; rw [if_pos h]
theorem co_62 (h : owG s n p 62 = 1) : owCo s n p = 18 := by
  unfold owCo
  rw [if_neg (by rw [owG_ne h (by decide)]; decide), if_pos h]
theorem co_61 (h : owG s n p 61 = 1) : owCo s n p = 19 := by
  unfold owCo
  rw [if_neg (by rw [owG_ne h (by decide)]; decide), if_neg (by rw [owG_ne h (by decide)]; decide), if_pos h]
theorem co_n (h1 : owG s n p 60 = 0) (h2 : owG s n p 62 = 0) (h3 : owG s n p 61 = 0) : owCo s n p = 0 := by
  unfold owCo
  rw [if_neg (by omega), if_neg (by omega), if_neg (by omega)]
theorem bo_and (h : owW s n p 48365568 = 1) : owBo s n p = 20 := by unfold owBo; rw [if_pos h]
theorem bo_or (h : owW s n p 522190848 = 1) : owBo s n p = 21 := by
  unfold owBo
  rw [if_neg (by rw [owW_ne h (by decide)]; decide), if_pos h]
theorem bo_na (h : owW s n p 48365568 = 0) : owBo s n p ≠ 20 := by
  unfold owBo
  (repeat' split) <;> omega
theorem bo_no (h : owBo s n p ≠ 20) (h1 : owW s n p 522190848 = 0) : owBo s n p = 0 := by
  unfold owBo at h ⊢
  (repeat' split) <;> (repeat' split at h) <;> omega
/-- the words of a part, by their number -/
theorem wd_of {w : Int} (h1 : owK s n p = 1) (h2 : owV s n p = w) : owW s n p w = 1 := if_pos ⟨h1, h2⟩
theorem cd_of {w z : Int} (h : owW s n p w = 1) (hz : (w = 672503392 ∧ z = -1) ∨ (w = 777297172 ∧ z = -2) ∨ (w = 659111367 ∧ z = -3) ∨ (w = 781325312 ∧ z = -4) ∨ (w = 113741152 ∧ z = -5) ∨ (w = 527892480 ∧ z = -6)) : owCd s n p = z := by
  unfold owCd
  rcases hz with ⟨rfl, rfl⟩ | ⟨rfl, rfl⟩ | ⟨rfl, rfl⟩ | ⟨rfl, rfl⟩ | ⟨rfl, rfl⟩ | ⟨rfl, rfl⟩
  · rw [if_pos h]
  · rw [if_neg (by rw [owW_ne h (by decide)]; decide), if_pos h]
  · rw [if_neg (by rw [owW_ne h (by decide)]; decide), if_neg (by rw [owW_ne h (by decide)]; decide), if_pos h]
  · rw [if_neg (by rw [owW_ne h (by decide)]; decide), if_neg (by rw [owW_ne h (by decide)]; decide), if_neg (by rw [owW_ne h (by decide)]; decide), if_pos h]
  · rw [if_neg (by rw [owW_ne h (by decide)]; decide), if_neg (by rw [owW_ne h (by decide)]; decide), if_neg (by rw [owW_ne h (by decide)]; decide), if_neg (by rw [owW_ne h (by decide)]; decide), if_pos h]
  · rw [if_neg (by rw [owW_ne h (by decide)]; decide), if_neg (by rw [owW_ne h (by decide)]; decide), if_neg (by rw [owW_ne h (by decide)]; decide), if_neg (by rw [owW_ne h (by decide)]; decide), if_neg (by rw [owW_ne h (by decide)]; decide), if_pos h]
theorem mx_of {w z : Int} (h : owW s n p w = 1) (hz : (w = 446103552 ∧ z = 15) ∨ (w = 438042624 ∧ z = 16) ∨ (w = 308281344 ∧ z = 23)) : owMx s n p = z := by
  unfold owMx
  rcases hz with ⟨rfl, rfl⟩ | ⟨rfl, rfl⟩ | ⟨rfl, rfl⟩
  · rw [if_pos h]
  · rw [if_neg (by rw [owW_ne h (by decide)]; decide), if_pos h]
  · rw [if_neg (by rw [owW_ne h (by decide)]; decide), if_neg (by rw [owW_ne h (by decide)]; decide), if_pos h]
theorem pt_none (h : owK s n p ≠ 3) (hg : owG s n p 40 = 0) (hv : owK s n p = 1 → owV s n p ≠ 672503392 ∧ owV s n p ≠ 777297172 ∧ owV s n p ≠ 659111367 ∧ owV s n p ≠ 781325312 ∧ owV s n p ≠ 113741152 ∧ owV s n p ≠ 527892480 ∧ owV s n p ≠ 446103552 ∧ owV s n p ≠ 438042624 ∧ owV s n p ≠ 308281344) {o : Int} : PtX s n o p (owU s n p) := by
  have hw : ∀ w, (w = 672503392 ∨ w = 777297172 ∨ w = 659111367 ∨ w = 781325312 ∨ w = 113741152 ∨ w = 527892480 ∨ w = 446103552 ∨ w = 438042624 ∨ w = 308281344) → ¬ owW s n p w = 1 := fun w hw g => by
    have g1 := owW1 g
    have := hv g1.1
    omega
  refine pt_x0 hg ?_ h ?_
  · unfold owMx
    rw [if_neg (hw _ (by omega)), if_neg (hw _ (by omega)), if_neg (hw _ (by omega))]
  · unfold owCd
    rw [if_neg (hw _ (by omega)), if_neg (hw _ (by omega)), if_neg (hw _ (by omega)), if_neg (hw _ (by omega)), if_neg (hw _ (by omega)), if_neg (hw _ (by omega))]
end AOS
theorem f_10 {xs : Nat → Int} {Ln d : Nat} {T : List cK} {M : cM} (hT : TT T) (hI : Rng M) {f : Nat} (hf : fF f) (hG : Gm T M) {step : Int} (p0 : M f 2 + 1 ≤ 1600) : cC k_P xs Ln (d + 2) 10 [rf f, (0, step)] (T, M) (qGV T M fS_10_m (fun M1 => M1 f 2 = M f 2 + 1 ∧ OFp f M M1 ∧ FCg f M M1 [step])) :=
  cP.mono (a_10 hT hI hf hG p0) (Nat.le_refl _) (fun _ _ ⟨T1, M1, c1, c2, c3, c4, c5, c6, c7, c8⟩ => ⟨T1, M1, c1, c2, c3, c4, c5, c6, c7, OFp.add hG c6 c8, FCg.add hf (rgf_0_2 hI hf).1 hG c6 c7 c8⟩)
def gS_101_m : List (Nat × Nat) := [(5, 2), (5, 3), (5, 4), (5, 5), (5, 6), (5, 7)]
theorem f_101 {xs : Nat → Int} {Ln d : Nat} {T : List cK} {M : cM} (hT : TT T) (hI : Rng M) (h50 : M 5 0 = ((2 : Nat) : Int)) {c o : Int} {s : Nat → Int} {n p : Int} (hA : LxA M s n p) (p0 : 0 ≤ o ∧ o ≤ 7) : cC k_P xs Ln (d + 3) 101 [rf 4, (0, c), (0, o)] (T, M) (qW T M gS_101_m 0 (fun v M1 => (v = 1 ∧ o < 7 ∧ M 5 3 = 4 ∧ (M 5 2 ≤ M1 5 2 ∧ (M1 5 3 = 0 ∨ M1 5 3 = 5 ∨ M 5 2 + 1 ≤ M1 5 2) ∧ p + 1 ≤ owE s n p) ∧ owG s n p c = 1 ∧ LxA M1 s n (owE s n p)) ∨ (v = 0 ∧ M1 5 2 = M 5 2 ∧ SumX M1 (OpX s n p c o)))) := by
  show cP k_P xs Ln (d + 3) 101 0 [(0, rf 4), (1, (0, c)), (2, (0, o))] [] (T, M) _
  have hFm : Fr gS_101_m M M := Fr.refl
  have h51 := hA.2.1
  have h0 := hA.2.2.1
  have hpn := hA.2.2.2.1
  have h53 := hA.2.2.2.2.1
  have h55 := hA.2.2.2.2.2.1
  have h51r := rg_5_1 hI
  have h52 := rg_5_2 hI
  have h53r := rg_5_3 hI
  refine s_aload_n kx_101_0 rfl ?_
  refine r_getR (k := 4) (f := 0) (k2 := 5) kx_101_1 kp_101_12 (tk_4 hT) kf_7_0 (by decide) (rq_4_0 hI) ?_
  refine s_iload_n kx_101_4 rfl ?_
  refine s_callV2 (k := 5) (s1 := 2) (s2 := 0) (as := [(0, c)]) (rest := []) kx_101_5 kp_101_22 (Or.inl rfl) rfl (tk_5 hT) ki_23 kcl_23 rfl rfl (by decide) (f_23 (d := d + 2) (c := c) hT hI hA) (kF (fun v1 v1p => ?_))
  refine s_if_ne (t := 19) kx_101_8 (by decide) (fun hc2 => ?_) (fun hc2 => ?_)
  · replace v1p := v1p.resolve_right (by omega)
    refine s_iload_n kx_101_19 rfl ?_
    refine s_bipush (v := 7) kx_101_20 (by decide) ?_
    refine s_icmp_lt (t := 41) kx_101_22 (by decide) (fun hc3 => ?_) (fun hc3 => ?_)
    · refine s_aload_n kx_101_41 rfl ?_
      refine r_getR (k := 4) (f := 0) (k2 := 5) kx_101_42 kp_101_12 (tk_4 hT) kf_7_0 (by decide) (rq_4_0 hI) ?_
      refine s_callV2 (k := 5) (s1 := 1) (s2 := 0) (as := []) (rest := []) kx_101_45 kp_101_28 (Or.inl rfl) rfl (tk_5 hT) ki_26 kcl_26 rfl rfl (by decide) (f_26 (d := d) hT hI h50 (LxA.nx hA (by omega) (by omega))) (kV (fun M5 hI5 fr5 v4p => ?_))
      have hFm5 := hFm.call fr5 rfl
      have la6b := (v4p.1).2.1
      have la6c := (v4p.1).2.2.1
      have la6d := (v4p.1).2.2.2.1
      have la6e := (v4p.1).2.2.2.2.1
      have la6f := (v4p.1).2.2.2.2.2.1
      have la6z := owE_gt (s := s) (hA).2.2.2.1 (by omega)
      refine s_iconst (v := 1) kx_101_48 (by decide) ?_
      exact s_iret kx_101_49 (Or.inr ⟨kq_101, by omega⟩) ⟨_, _, rfl, rfl, hI5, hFm5, (Or.inl ⟨rfl, by omega, by omega, ⟨by omega, by omega, by omega⟩, by omega, v4p.1⟩)⟩
    · refine s_aload_n kx_101_25 rfl ?_
      refine r_getR (k := 4) (f := 0) (k2 := 5) kx_101_26 kp_101_12 (tk_4 hT) kf_7_0 (by decide) (rq_4_0 hI) ?_
      refine s_iconst (v := 5) kx_101_29 (by decide) ?_
      refine s_aload_n kx_101_30 rfl ?_
      refine r_getR (k := 4) (f := 0) (k2 := 5) kx_101_31 kp_101_12 (tk_4 hT) kf_7_0 (by decide) (rq_4_0 hI) ?_
      refine r_getI (k := 5) (f := 5) kx_101_34 kp_101_96 (tk_5 hT) kf_3_5 (fun _ => rfl) (rg_5_5 hI) (fun v7 v7e v7a v7b => ?_)
      have hk8 : M 5 5 = v7 := v7e
      refine s_callV2 (k := 5) (s1 := 3) (s2 := 0) (as := [(0, v7), (0, 5)]) (rest := []) kx_101_37 kp_101_99 (Or.inl rfl) rfl (tk_5 hT) ki_20 kcl_20 rfl rfl (by decide) (f_20 (d := d + 2) (kind := 5) (place := v7) hT hI) (kW (fun v9 M10 hI10 fr10 v9p => ?_))
      have hFm10 := hFm.call fr10 rfl
      have tr11 := (fr10 5 2 rfl)
      have tr12 := (fr10 5 3 rfl)
      exact s_iret kx_101_40 (Or.inr ⟨kq_101, by omega⟩) ⟨_, _, rfl, rfl, hI10, hFm10, (Or.inr ⟨by omega, by omega, (fun z => ⟨_, z.1, z.2, Or.inr ⟨by omega, by omega, rfl⟩⟩) (LxA.fl hA (by omega) (by omega) (by omega) v9p.2.2 (by decide) (show 50000 + owB s n p = 10000 * 5 + owB s n p by omega))⟩)⟩
  · replace v1p := v1p.resolve_left (by omega)
    refine s_aload_n kx_101_11 rfl ?_
    refine r_getR (k := 4) (f := 0) (k2 := 5) kx_101_12 kp_101_12 (tk_4 hT) kf_7_0 (by decide) (rq_4_0 hI) ?_
    refine s_callV2 (k := 5) (s1 := 1) (s2 := 0) (as := []) (rest := []) kx_101_15 kp_101_62 (Or.inl rfl) rfl (tk_5 hT) ki_21 kcl_21 rfl rfl (by decide) (f_21 (d := d + 1) hT hI) (kW (fun v13 M14 hI14 fr14 v13p => ?_))
    have hFm14 := hFm.call fr14 rfl
    have tr15 := (fr14 5 2 rfl)
    have tr16 := (fr14 5 3 rfl)
    exact s_iret kx_101_18 (Or.inr ⟨kq_101, by omega⟩) ⟨_, _, rfl, rfl, hI14, hFm14, (Or.inr ⟨by omega, by omega, SumX.un (LxA.un hA (by omega) v13p.2.2) h0 (Or.inl ⟨by omega, rfl⟩)⟩)⟩
theorem f_91 {xs : Nat → Int} {Ln d : Nat} {T : List cK} {M : cM} (hT : TT T) (hI : Rng M) {s : Nat → Int} {n p : Int} (hA : LxA M s n p) : cC k_P xs Ln (d + 1) 91 [rf 4] (T, M) (qF T M 0 (fun v => (12 ≤ owAo s n p ∧ v = 3 - owAo s n p ∧ M 5 3 = 4) ∨ (¬ 12 ≤ owAo s n p ∧ v = 0))) := by
  show cP k_P xs Ln (d + 1) 91 0 [(0, rf 4)] [] (T, M) _
  have h51 := hA.2.1
  have h0 := hA.2.2.1
  have hpn := hA.2.2.2.1
  have h53 := hA.2.2.2.2.1
  have h55 := hA.2.2.2.2.2.1
  have h51r := rg_5_1 hI
  have h52 := rg_5_2 hI
  have h53r := rg_5_3 hI
  refine s_aload_n kx_91_0 rfl ?_
  refine r_getR (k := 4) (f := 0) (k2 := 5) kx_91_1 kp_91_12 (tk_4 hT) kf_7_0 (by decide) (rq_4_0 hI) ?_
  refine s_bipush (v := 42) kx_91_4 (by decide) ?_
  refine s_callV2 (k := 5) (s1 := 2) (s2 := 0) (as := [(0, 42)]) (rest := []) kx_91_6 kp_91_22 (Or.inl rfl) rfl (tk_5 hT) ki_23 kcl_23 rfl rfl (by decide) (f_23 (d := d) (c := 42) hT hI hA) (kF (fun v1 v1p => ?_))
  refine s_if_eq (t := 15) kx_91_9 (by decide) (fun hc2 => ?_) (fun hc2 => ?_)
  · replace v1p := v1p.resolve_left (by omega)
    refine s_aload_n kx_91_15 rfl ?_
    refine r_getR (k := 4) (f := 0) (k2 := 5) kx_91_16 kp_91_12 (tk_4 hT) kf_7_0 (by decide) (rq_4_0 hI) ?_
    refine s_bipush (v := 47) kx_91_19 (by decide) ?_
    refine s_callV2 (k := 5) (s1 := 2) (s2 := 0) (as := [(0, 47)]) (rest := []) kx_91_21 kp_91_22 (Or.inl rfl) rfl (tk_5 hT) ki_23 kcl_23 rfl rfl (by decide) (f_23 (d := d) (c := 47) hT hI hA) (kF (fun v3 v3p => ?_))
    refine s_if_eq (t := 30) kx_91_24 (by decide) (fun hc4 => ?_) (fun hc4 => ?_)
    · replace v3p := v3p.resolve_left (by omega)
      refine s_aload_n kx_91_30 rfl ?_
      refine r_getR (k := 4) (f := 0) (k2 := 5) kx_91_31 kp_91_12 (tk_4 hT) kf_7_0 (by decide) (rq_4_0 hI) ?_
      refine s_bipush (v := 37) kx_91_34 (by decide) ?_
      refine s_callV2 (k := 5) (s1 := 2) (s2 := 0) (as := [(0, 37)]) (rest := []) kx_91_36 kp_91_22 (Or.inl rfl) rfl (tk_5 hT) ki_23 kcl_23 rfl rfl (by decide) (f_23 (d := d) (c := 37) hT hI hA) (kF (fun v5 v5p => ?_))
      refine s_if_eq (t := 47) kx_91_39 (by decide) (fun hc6 => ?_) (fun hc6 => ?_)
      · replace v5p := v5p.resolve_left (by omega)
        refine s_iconst (v := 0) kx_91_47 (by decide) ?_
        exact s_iret kx_91_48 (Or.inl kq_91) ⟨_, rfl, rfl, (Or.inr ⟨ao_n6 (by omega) (by omega) (by omega), rfl⟩)⟩
      · replace v5p := v5p.resolve_right (by omega)
        refine s_bipush (v := (-11)) kx_91_42 (by decide) ?_
        refine s_goto (t := 48) kx_91_44 (by decide) ?_
        exact s_iret kx_91_48 (Or.inl kq_91) ⟨_, rfl, rfl, (Or.inl ⟨by have := ao_37 (s := s) (n := n) (p := p) (by omega); omega, by have := ao_37 (s := s) (n := n) (p := p) (by omega); omega, by omega⟩)⟩
    · replace v3p := v3p.resolve_right (by omega)
      refine s_bipush (v := (-10)) kx_91_27 (by decide) ?_
      exact s_iret kx_91_29 (Or.inl kq_91) ⟨_, rfl, rfl, (Or.inl ⟨by have := ao_47 (s := s) (n := n) (p := p) (by omega); omega, by have := ao_47 (s := s) (n := n) (p := p) (by omega); omega, by omega⟩)⟩
  · replace v1p := v1p.resolve_right (by omega)
    refine s_bipush (v := (-9)) kx_91_12 (by decide) ?_
    exact s_iret kx_91_14 (Or.inl kq_91) ⟨_, rfl, rfl, (Or.inl ⟨by have := ao_42 (s := s) (n := n) (p := p) (by omega); omega, by have := ao_42 (s := s) (n := n) (p := p) (by omega); omega, by omega⟩)⟩
abbrev LfS (xs : Nat → Int) (Ln D : Nat) (o : Int) : Prop := ∀ {T : List cK} {M : cM} {f : Nat} {k : Int} {s : Nat → Int} {n p : Int}, TT T → Rng M → M 5 0 = ((2 : Nat) : Int) → fF f → Gm T M → LxA M s n p → 0 ≤ k → (M f 2 + k ≤ M 5 2 ∧ (M 5 3 = 0 ∨ M 5 3 = 5 ∨ M f 2 + k + 1 ≤ M 5 2)) → cC k_P xs Ln D 89 [rf 4, rf f, (0, o)] (T, M) (qG T M fS_par 0 (fun v M1 => (v = 1 ∧ (M1 f 2 + k ≤ M1 5 2 ∧ (M1 5 3 = 0 ∨ M1 5 3 = 5 ∨ M1 f 2 + k + 1 ≤ M1 5 2)) ∧ (M f 2 + 1 ≤ M1 f 2 ∧ OFp f M M1) ∧ SumO M f M1 s n p 0 (fun c q => LvOk s n 5 o p c q ∧ owAo s n q = 0)) ∨ (v = 0 ∧ (M1 f 2 + k ≤ M1 5 2 ∧ OFp f M M1) ∧ SumX M1 (fun g => LvX s n 5 o p g))))
abbrev LfT (xs : Nat → Int) (Ln D : Nat) (o : Int) : Prop := ∀ {T : List cK} {M : cM} {f : Nat} {k : Int} {s : Nat → Int} {n p : Int}, TT T → Rng M → M 5 0 = ((2 : Nat) : Int) → fF f → Gm T M → LxA M s n p → 0 ≤ k → (M f 2 + k ≤ M 5 2 ∧ (M 5 3 = 0 ∨ M 5 3 = 5 ∨ M f 2 + k + 1 ≤ M 5 2)) → cC k_P xs Ln D 96 [rf 4, rf f, (0, o)] (T, M) (qG T M fS_par 0 (fun v M1 => (v = 1 ∧ (M1 f 2 + k ≤ M1 5 2 ∧ (M1 5 3 = 0 ∨ M1 5 3 = 5 ∨ M1 f 2 + k + 1 ≤ M1 5 2)) ∧ (M f 2 + 1 ≤ M1 f 2 ∧ OFp f M M1) ∧ SumO M f M1 s n p 0 (fun c q => TlOk s n 1 o p c q ∧ owBo s n q = 0)) ∨ (v = 0 ∧ (M1 f 2 + k ≤ M1 5 2 ∧ OFp f M M1) ∧ SumX M1 (fun g => TlX s n 1 o p g))))
abbrev LfF (xs : Nat → Int) (Ln D : Nat) (o : Int) : Prop := ∀ {T : List cK} {M : cM} {f : Nat} {k : Int} {s : Nat → Int} {n p : Int}, TT T → Rng M → M 5 0 = ((2 : Nat) : Int) → fF f → Gm T M → LxA M s n p → 0 ≤ k → (M f 2 + k ≤ M 5 2 ∧ (M 5 3 = 0 ∨ M 5 3 = 5 ∨ M f 2 + k + 1 ≤ M 5 2)) → cC k_P xs Ln D 98 [rf 4, rf f, (0, o)] (T, M) (qG T M fS_par 0 (fun v M1 => (v = 1 ∧ (M1 f 2 + k ≤ M1 5 2 ∧ (M1 5 3 = 0 ∨ M1 5 3 = 5 ∨ M1 f 2 + k + 1 ≤ M1 5 2)) ∧ (M f 2 + 1 ≤ M1 f 2 ∧ OFp f M M1) ∧ SumO M f M1 s n p 0 (fun c q => TlOk s n 3 o p c q)) ∨ (v = 0 ∧ (M1 f 2 + k ≤ M1 5 2 ∧ OFp f M M1) ∧ SumX M1 (fun g => TlX s n 3 o p g))))
def Lf (xs : Nat → Int) (Ln D : Nat) (o : Int) : Prop := LfS xs Ln D o ∧ LfT xs Ln D o ∧ LfF xs Ln D o
theorem Lf.deep {xs : Nat → Int} {Ln D E : Nat} {o : Int} (h : Lf xs Ln D o) (hd : D ≤ E) : Lf xs Ln E o :=
  ⟨fun a b c e f l g i => (h.1 a b c e f l g i).deep hd, fun a b c e f l g i => (h.2.1 a b c e f l g i).deep hd, fun a b c e f l g i => (h.2.2 a b c e f l g i).deep hd⟩
theorem f_93 {xs : Nat → Int} {Ln d : Nat} {T : List cK} {M : cM} (hT : TT T) (hI : Rng M) (h50 : M 5 0 = ((2 : Nat) : Int)) {f : Nat} (hf : fF f) (hG : Gm T M) {step k : Int} {s : Nat → Int} {n p : Int} (hA : LxA M s n p) (p0 : 0 ≤ k) (p1 : M f 2 + k + 1 ≤ M 5 2) (p2 : 1 ≤ owK s n p ∧ owK s n p ≤ 4) : cC k_P xs Ln (d + 3) 93 [rf 4, rf f, (0, step)] (T, M) (qG T M fS_par 0 (fun v M1 => v = 1 ∧ (M1 f 2 + k ≤ M1 5 2 ∧ (M1 5 3 = 0 ∨ M1 5 3 = 5 ∨ M1 f 2 + k + 1 ≤ M1 5 2)) ∧ ((M1 f 2 = M f 2 + 1 ∧ p + 1 ≤ owE s n p) ∧ OFp f M M1) ∧ LxA M1 s n (owE s n p) ∧ FCg f M M1 [step])) := by
  show cP k_P xs Ln (d + 3) 93 0 [(0, rf 4), (1, rf f), (2, (0, step))] [] (T, M) _
  have hFm : Fr fS_par M M := Fr.refl
  have h51 := hA.2.1
  have h0 := hA.2.2.1
  have hpn := hA.2.2.2.1
  have h53 := hA.2.2.2.2.1
  have h55 := hA.2.2.2.2.2.1
  have h51r := rg_5_1 hI
  have h52 := rg_5_2 hI
  have h53r := rg_5_3 hI
  refine s_aload_n kx_93_0 rfl ?_
  refine s_iload_n kx_93_1 rfl ?_
  refine s_callV2 (k := f) (s1 := 2) (s2 := 0) (as := [(0, step)]) (rest := []) kx_93_2 kp_93_31 (Or.inl rfl) rfl (tkf_0 hT hf) ki_10 kcl_10 rfl rfl (by decide) (f_10 (d := d) (step := step) hT hI hf hG (by omega)) (kGV (fun T2 M2 hT2 hI2 fr2 hG2 v1p => ?_))
  have hFm2 := hFm.call fr2 rfl
  have tr3 := (fr2 5 2 rfl)
  have tr4 := (fr2 5 3 rfl)
  have tr5 := rg_5_2 hI2
  have tr6 := rg_5_3 hI2
  have hfg8 := FCg.trans0 (FCg.refl (rgf_0_2 hI hf).1) v1p.2.2
  have hof7 := OFp.trans (OFp.refl (M := M)) v1p.2.1
  refine s_aload_n kx_93_5 rfl ?_
  refine r_getR (k := 4) (f := 0) (k2 := 5) kx_93_6 kp_93_12 (tk_4 hT2) kf_7_0 (by decide) (rq_4_0 hI2) ?_
  refine s_callV2 (k := 5) (s1 := 1) (s2 := 0) (as := []) (rest := []) kx_93_9 kp_93_28 (Or.inl rfl) rfl (tk_5 hT2) ki_26 kcl_26 rfl rfl (by decide) (f_26 (d := d) hT2 hI2 ((fr2 5 0 rfl).trans h50) (LxA.nx (LxA.fr hA fr2 rfl) (by omega) (by omega))) (kV (fun M10 hI10 fr10 v9p => ?_))
  have hFm10 := hFm2.call fr10 rfl
  have tr11 := (fr10 f 2 (by rcases hf with rfl | rfl | rfl | rfl <;> rfl))
  have tr12 := rg_5_2 hI10
  have tr13 := rg_5_3 hI10
  have la14b := (v9p.1).2.1
  have la14c := (v9p.1).2.2.1
  have la14d := (v9p.1).2.2.2.1
  have la14e := (v9p.1).2.2.2.2.1
  have la14f := (v9p.1).2.2.2.2.2.1
  have la14z := owE_gt (s := s) ((LxA.fr hA fr2 rfl)).2.2.2.1 (by omega)
  refine s_iconst (v := 1) kx_93_12 (by decide) ?_
  exact s_iret kx_93_13 (Or.inr ⟨kq_93, by omega⟩) ⟨_, _, _, rfl, rfl, hT2, hI10, hFm10, (Gm.fr hG2 fr10 rfl), ⟨rfl, ⟨by omega, by omega⟩, ⟨⟨by omega, by omega⟩, (OFp.fr hof7 fr10 rfl)⟩, v9p.1, (FCg.fr hfg8 hf fr10 rfl)⟩⟩
theorem f_94 {xs : Nat → Int} {Ln d : Nat} {T : List cK} {M : cM} (hT : TT T) (hI : Rng M) (h50 : M 5 0 = ((2 : Nat) : Int)) {f : Nat} (hf : fF f) (hG : Gm T M) {o step k : Int} {s : Nat → Int} {n p : Int} (hA : LxA M s n p) (hL : o < 7 → Lf xs Ln d (o + 1)) (p0 : 0 ≤ o ∧ o ≤ 7) (p1 : 0 ≤ k) (p2 : M f 2 + k + 1 ≤ M 5 2) (p3 : owMx s n p ≠ 0) (p4 : owMx s n p ≠ 23) (p5 : step = 3 - owMx s n p) : cC k_P xs Ln (d + 4) 94 [rf 4, rf f, (0, o), (0, step)] (T, M) (qG T M fS_par 0 (fun v M1 => (v = 1 ∧ (M1 f 2 + k ≤ M1 5 2 ∧ (M1 5 3 = 0 ∨ M1 5 3 = 5 ∨ M1 f 2 + k + 1 ≤ M1 5 2)) ∧ (M f 2 + 1 ≤ M1 f 2 ∧ OFp f M M1) ∧ SumO M f M1 s n p 0 (fun c q => PtOk s n o p c q)) ∨ (v = 0 ∧ (M1 f 2 + k ≤ M1 5 2 ∧ OFp f M M1) ∧ SumX M1 (fun g => PtX s n o p g)))) := by
  show cP k_P xs Ln (d + 4) 94 0 [(0, rf 4), (1, rf f), (2, (0, o)), (3, (0, step))] [] (T, M) _
  have hFm : Fr fS_par M M := Fr.refl
  have h51 := hA.2.1
  have h0 := hA.2.2.1
  have hpn := hA.2.2.2.1
  have h53 := hA.2.2.2.2.1
  have h55 := hA.2.2.2.2.2.1
  have h51r := rg_5_1 hI
  have h52 := rg_5_2 hI
  have h53r := rg_5_3 hI
  have hmx := p3
  have hm23 := p4
  have hm1 := owMx_1 hmx
  refine s_aload_n kx_94_0 rfl ?_
  refine r_getR (k := 4) (f := 0) (k2 := 5) kx_94_1 kp_94_12 (tk_4 hT) kf_7_0 (by decide) (rq_4_0 hI) ?_
  refine s_callV2 (k := 5) (s1 := 1) (s2 := 0) (as := []) (rest := []) kx_94_4 kp_94_28 (Or.inl rfl) rfl (tk_5 hT) ki_26 kcl_26 rfl rfl (by decide) (f_26 (d := d + 1) hT hI h50 (LxA.nx hA (by omega) (by omega))) (kV (fun M2 hI2 fr2 v1p => ?_))
  have hFm2 := hFm.call fr2 rfl
  have tr3 := (fr2 f 2 (by rcases hf with rfl | rfl | rfl | rfl <;> rfl))
  have tr4 := rg_5_2 hI2
  have tr5 := rg_5_3 hI2
  have la6b := (v1p.1).2.1
  have la6c := (v1p.1).2.2.1
  have la6d := (v1p.1).2.2.2.1
  have la6e := (v1p.1).2.2.2.2.1
  have la6f := (v1p.1).2.2.2.2.2.1
  have la6z := owE_gt (s := s) (hA).2.2.2.1 (by omega)
  refine s_aload_n kx_94_7 rfl ?_
  refine s_bipush (v := 40) kx_94_8 (by decide) ?_
  refine s_iload_n kx_94_10 rfl ?_
  refine s_callV2 (k := 4) (s1 := 3) (s2 := 0) (as := [(0, o), (0, 40)]) (rest := []) kx_94_11 kp_94_52 (Or.inl rfl) rfl (tk_4 hT) ki_101 kcl_101 rfl rfl (by decide) (f_101 (d := d) (c := 40) (o := o) hT hI2 ((fr2 5 0 rfl).trans h50) v1p.1 (by omega)) (kW (fun v7 M8 hI8 fr8 v7p => ?_))
  have hFm8 := hFm2.call fr8 rfl
  have tr9 := (fr8 f 2 (by rcases hf with rfl | rfl | rfl | rfl <;> rfl))
  have tr10 := rg_5_2 hI8
  have tr11 := rg_5_3 hI8
  refine s_if_eq (t := 67) kx_94_14 (by decide) (fun hc12 => ?_) (fun hc12 => ?_)
  · replace v7p := v7p.resolve_left (by omega)
    have hx13 : SumX M8 (fun g => PtX s n o p g) := (v7p.2.2.mono (fun g z => z.elim (fun a => by rw [a.2]; exact mx_x1 hmx a.1) (fun a => by rw [a.2.2]; exact mx_x5 hmx a.1 (by omega))))
    refine s_iconst (v := 0) kx_94_67 (by decide) ?_
    refine s_istore kx_94_68 km_94_4 rfl ?_
    refine s_aload_n kx_94_70 rfl ?_
    refine s_iload_n kx_94_71 rfl ?_
    refine s_callV2 (k := f) (s1 := 2) (s2 := 0) (as := [(0, step)]) (rest := []) kx_94_72 kp_94_31 (Or.inl rfl) rfl (tkf_0 hT hf) ki_10 kcl_10 rfl rfl (by decide) (f_10 (d := d + 1) (step := step) hT hI8 hf (Gm.fr (Gm.fr hG fr2 rfl) fr8 rfl) (by omega)) (kGV (fun T15 M15 hT15 hI15 fr15 hG15 v14p => ?_))
    have hFm15 := hFm8.call fr15 rfl
    have tr16 := (fr15 5 2 rfl)
    have tr17 := (fr15 5 3 rfl)
    have tr18 := rg_5_2 hI15
    have tr19 := rg_5_3 hI15
    have hof20 := OFp.trans (OFp.fr (OFp.fr (OFp.refl (M := M)) fr2 rfl) fr8 rfl) v14p.2.1
    refine s_iload kx_94_75 rfl ?_
    exact s_iret kx_94_77 (Or.inr ⟨kq_94, by omega⟩) ⟨_, _, _, rfl, rfl, hT15, hI15, hFm15, hG15, (Or.inr ⟨rfl, ⟨by omega, hof20⟩, (SumX.fr hx13 fr15 rfl)⟩)⟩
  · replace v7p := v7p.resolve_right (by omega)
    refine s_aload_n kx_94_17 rfl ?_
    refine s_aload_n kx_94_18 rfl ?_
    refine s_iload_n kx_94_19 rfl ?_
    refine s_iconst (v := 1) kx_94_20 (by decide) ?_
    refine r_add kx_94_21 ⟨by omega, by omega⟩ ?_
    refine s_callV2 (k := 4) (s1 := 3) (s2 := 0) (as := [(0, (o + 1)), rf f]) (rest := []) kx_94_22 kp_94_56 (Or.inl rfl) rfl (tk_4 hT) ki_89 kcl_89 rfl rfl (by decide) (cC.deep ((hL (by omega)).1 (k := k + 1) hT hI8 ((fr8 5 0 rfl).trans ((fr2 5 0 rfl).trans h50)) hf (Gm.fr (Gm.fr hG fr2 rfl) fr8 rfl) v7p.2.2.2.2.2 (by omega) (by omega)) (by omega)) (kG (fun v21 T22 M22 hT22 hI22 fr22 hG22 v21p => ?_))
    have hFm22 := hFm8.call fr22 rfl
    have tr23 := rg_5_2 hI22
    have tr24 := rg_5_3 hI22
    have hof25 := OFp.trans (OFp.fr (OFp.fr (OFp.refl (M := M)) fr2 rfl) fr8 rfl) (v21p.elim (fun z => z.2.2.1.2) (fun z => z.2.1.2))
    refine s_if_eq (t := 67) kx_94_25 (by decide) (fun hc26 => ?_) (fun hc26 => ?_)
    · replace v21p := v21p.resolve_left (by omega)
      have hx27 : SumX M22 (fun g => PtX s n o p g) := (v21p.2.2.mono (fun g z => mm_x hmx hm23 v7p.2.2.2.2.1 (by omega) (Or.inl z)))
      refine s_iconst (v := 0) kx_94_67 (by decide) ?_
      refine s_istore kx_94_68 km_94_4 rfl ?_
      refine s_aload_n kx_94_70 rfl ?_
      refine s_iload_n kx_94_71 rfl ?_
      refine s_callV2 (k := f) (s1 := 2) (s2 := 0) (as := [(0, step)]) (rest := []) kx_94_72 kp_94_31 (Or.inl rfl) rfl (tkf_0 hT22 hf) ki_10 kcl_10 rfl rfl (by decide) (f_10 (d := d + 1) (step := step) hT22 hI22 hf hG22 (by omega)) (kGV (fun T29 M29 hT29 hI29 fr29 hG29 v28p => ?_))
      have hFm29 := hFm22.call fr29 rfl
      have tr30 := (fr29 5 2 rfl)
      have tr31 := (fr29 5 3 rfl)
      have tr32 := rg_5_2 hI29
      have tr33 := rg_5_3 hI29
      have hof34 := OFp.trans hof25 v28p.2.1
      refine s_iload kx_94_75 rfl ?_
      exact s_iret kx_94_77 (Or.inr ⟨kq_94, by omega⟩) ⟨_, _, _, rfl, rfl, hT29, hI29, hFm29, hG29, (Or.inr ⟨rfl, ⟨by omega, hof34⟩, (SumX.fr hx27 fr29 rfl)⟩)⟩
    · replace v21p := v21p.resolve_right (by omega)
      obtain ⟨c1, q1, q1l, q1p, q1o, q1g⟩ := v21p.2.2.2
      have hfg35 := FCg.trans0 (FCg.fr (FCg.fr (FCg.refl (rgf_0_2 hI hf).1) hf fr2 rfl) hf fr8 rfl) q1g
      have q1b := q1l.2.1
      have q1c := q1l.2.2.1
      have q1d := q1l.2.2.2.1
      have q1e := q1l.2.2.2.2.1
      have q1f := q1l.2.2.2.2.2.1
      refine s_aload_n kx_94_28 rfl ?_
      refine r_getR (k := 4) (f := 0) (k2 := 5) kx_94_29 kp_94_12 (tk_4 hT22) kf_7_0 (by decide) (rq_4_0 hI22) ?_
      refine s_bipush (v := 44) kx_94_32 (by decide) ?_
      refine s_callV2 (k := 5) (s1 := 2) (s2 := 0) (as := [(0, 44)]) (rest := []) kx_94_34 kp_94_59 (Or.inl rfl) rfl (tk_5 hT22) ki_24 kcl_24 rfl rfl (by decide) (f_24 (d := d) (c := 44) hT22 hI22 ((fr22 5 0 rfl).trans ((fr8 5 0 rfl).trans ((fr2 5 0 rfl).trans h50))) q1l) (kW (fun v36 M37 hI37 fr37 v36p => ?_))
      have hFm37 := hFm22.call fr37 rfl
      have tr38 := (fr37 f 2 (by rcases hf with rfl | rfl | rfl | rfl <;> rfl))
      have tr39 := rg_5_2 hI37
      have tr40 := rg_5_3 hI37
      refine s_if_eq (t := 67) kx_94_37 (by decide) (fun hc41 => ?_) (fun hc41 => ?_)
      · replace v36p := v36p.resolve_left (by omega)
        have hx42 : SumX M37 (fun g => PtX s n o p g) := (SumX.un v36p.2.2.1 (by omega) (mm_x hmx hm23 v7p.2.2.2.2.1 (by omega) (Or.inr ⟨_, _, q1o.1, Or.inl ⟨q1o.2, by omega, rfl⟩⟩)))
        refine s_iconst (v := 0) kx_94_67 (by decide) ?_
        refine s_istore kx_94_68 km_94_4 rfl ?_
        refine s_aload_n kx_94_70 rfl ?_
        refine s_iload_n kx_94_71 rfl ?_
        refine s_callV2 (k := f) (s1 := 2) (s2 := 0) (as := [(0, step)]) (rest := []) kx_94_72 kp_94_31 (Or.inl rfl) rfl (tkf_0 hT22 hf) ki_10 kcl_10 rfl rfl (by decide) (f_10 (d := d + 1) (step := step) hT22 hI37 hf (Gm.fr hG22 fr37 rfl) (by omega)) (kGV (fun T44 M44 hT44 hI44 fr44 hG44 v43p => ?_))
        have hFm44 := hFm37.call fr44 rfl
        have tr45 := (fr44 5 2 rfl)
        have tr46 := (fr44 5 3 rfl)
        have tr47 := rg_5_2 hI44
        have tr48 := rg_5_3 hI44
        have hof49 := OFp.trans (OFp.fr hof25 fr37 rfl) v43p.2.1
        refine s_iload kx_94_75 rfl ?_
        exact s_iret kx_94_77 (Or.inr ⟨kq_94, by omega⟩) ⟨_, _, _, rfl, rfl, hT44, hI44, hFm44, hG44, (Or.inr ⟨rfl, ⟨by omega, hof49⟩, (SumX.fr hx42 fr44 rfl)⟩)⟩
      · replace v36p := v36p.resolve_right (by omega)
        refine s_aload_n kx_94_40 rfl ?_
        refine s_aload_n kx_94_41 rfl ?_
        refine s_iload_n kx_94_42 rfl ?_
        refine s_iconst (v := 1) kx_94_43 (by decide) ?_
        refine r_add kx_94_44 ⟨by omega, by omega⟩ ?_
        refine s_callV2 (k := 4) (s1 := 3) (s2 := 0) (as := [(0, (o + 1)), rf f]) (rest := []) kx_94_45 kp_94_56 (Or.inl rfl) rfl (tk_4 hT22) ki_89 kcl_89 rfl rfl (by decide) (cC.deep ((hL (by omega)).1 (k := k + 1) hT22 hI37 ((fr37 5 0 rfl).trans ((fr22 5 0 rfl).trans ((fr8 5 0 rfl).trans ((fr2 5 0 rfl).trans h50)))) hf (Gm.fr hG22 fr37 rfl) v36p.2.2.1 (by omega) (by omega)) (by omega)) (kG (fun v50 T51 M51 hT51 hI51 fr51 hG51 v50p => ?_))
        have hFm51 := hFm37.call fr51 rfl
        have tr52 := rg_5_2 hI51
        have tr53 := rg_5_3 hI51
        have hof54 := OFp.trans (OFp.fr hof25 fr37 rfl) (v50p.elim (fun z => z.2.2.1.2) (fun z => z.2.1.2))
        refine s_if_eq (t := 67) kx_94_48 (by decide) (fun hc55 => ?_) (fun hc55 => ?_)
        · replace v50p := v50p.resolve_left (by omega)
          have hx56 : SumX M51 (fun g => PtX s n o p g) := (v50p.2.2.mono (fun g z => mm_x hmx hm23 v7p.2.2.2.2.1 (by omega) (Or.inr ⟨_, _, q1o.1, Or.inr ⟨by omega, Or.inl z⟩⟩)))
          refine s_iconst (v := 0) kx_94_67 (by decide) ?_
          refine s_istore kx_94_68 km_94_4 rfl ?_
          refine s_aload_n kx_94_70 rfl ?_
          refine s_iload_n kx_94_71 rfl ?_
          refine s_callV2 (k := f) (s1 := 2) (s2 := 0) (as := [(0, step)]) (rest := []) kx_94_72 kp_94_31 (Or.inl rfl) rfl (tkf_0 hT51 hf) ki_10 kcl_10 rfl rfl (by decide) (f_10 (d := d + 1) (step := step) hT51 hI51 hf hG51 (by omega)) (kGV (fun T58 M58 hT58 hI58 fr58 hG58 v57p => ?_))
          have hFm58 := hFm51.call fr58 rfl
          have tr59 := (fr58 5 2 rfl)
          have tr60 := (fr58 5 3 rfl)
          have tr61 := rg_5_2 hI58
          have tr62 := rg_5_3 hI58
          have hof63 := OFp.trans hof54 v57p.2.1
          refine s_iload kx_94_75 rfl ?_
          exact s_iret kx_94_77 (Or.inr ⟨kq_94, by omega⟩) ⟨_, _, _, rfl, rfl, hT58, hI58, hFm58, hG58, (Or.inr ⟨rfl, ⟨by omega, hof63⟩, (SumX.fr hx56 fr58 rfl)⟩)⟩
        · replace v50p := v50p.resolve_right (by omega)
          obtain ⟨c2, q2, q2l, q2p, q2o, q2g⟩ := v50p.2.2.2
          have hfg64 := FCg.trans (FCg.fr hfg35 hf fr37 rfl) q2g
          have q2b := q2l.2.1
          have q2c := q2l.2.2.1
          have q2d := q2l.2.2.2.1
          have q2e := q2l.2.2.2.2.1
          have q2f := q2l.2.2.2.2.2.1
          refine s_aload_n kx_94_51 rfl ?_
          refine r_getR (k := 4) (f := 0) (k2 := 5) kx_94_52 kp_94_12 (tk_4 hT51) kf_7_0 (by decide) (rq_4_0 hI51) ?_
          refine s_bipush (v := 41) kx_94_55 (by decide) ?_
          refine s_callV2 (k := 5) (s1 := 2) (s2 := 0) (as := [(0, 41)]) (rest := []) kx_94_57 kp_94_59 (Or.inl rfl) rfl (tk_5 hT51) ki_24 kcl_24 rfl rfl (by decide) (f_24 (d := d) (c := 41) hT51 hI51 ((fr51 5 0 rfl).trans ((fr37 5 0 rfl).trans ((fr22 5 0 rfl).trans ((fr8 5 0 rfl).trans ((fr2 5 0 rfl).trans h50))))) q2l) (kW (fun v65 M66 hI66 fr66 v65p => ?_))
          have hFm66 := hFm51.call fr66 rfl
          have tr67 := (fr66 f 2 (by rcases hf with rfl | rfl | rfl | rfl <;> rfl))
          have tr68 := rg_5_2 hI66
          have tr69 := rg_5_3 hI66
          refine s_if_eq (t := 67) kx_94_60 (by decide) (fun hc70 => ?_) (fun hc70 => ?_)
          · replace v65p := v65p.resolve_left (by omega)
            have hx71 : SumX M66 (fun g => PtX s n o p g) := (SumX.un v65p.2.2.1 (by omega) (mm_x hmx hm23 v7p.2.2.2.2.1 (by omega) (Or.inr ⟨_, _, q1o.1, Or.inr ⟨by omega, Or.inr ⟨_, _, q2o.1, q2o.2, by omega, rfl⟩⟩⟩)))
            refine s_iconst (v := 0) kx_94_67 (by decide) ?_
            refine s_istore kx_94_68 km_94_4 rfl ?_
            refine s_aload_n kx_94_70 rfl ?_
            refine s_iload_n kx_94_71 rfl ?_
            refine s_callV2 (k := f) (s1 := 2) (s2 := 0) (as := [(0, step)]) (rest := []) kx_94_72 kp_94_31 (Or.inl rfl) rfl (tkf_0 hT51 hf) ki_10 kcl_10 rfl rfl (by decide) (f_10 (d := d + 1) (step := step) hT51 hI66 hf (Gm.fr hG51 fr66 rfl) (by omega)) (kGV (fun T73 M73 hT73 hI73 fr73 hG73 v72p => ?_))
            have hFm73 := hFm66.call fr73 rfl
            have tr74 := (fr73 5 2 rfl)
            have tr75 := (fr73 5 3 rfl)
            have tr76 := rg_5_2 hI73
            have tr77 := rg_5_3 hI73
            have hof78 := OFp.trans (OFp.fr hof54 fr66 rfl) v72p.2.1
            refine s_iload kx_94_75 rfl ?_
            exact s_iret kx_94_77 (Or.inr ⟨kq_94, by omega⟩) ⟨_, _, _, rfl, rfl, hT73, hI73, hFm73, hG73, (Or.inr ⟨rfl, ⟨by omega, hof78⟩, (SumX.fr hx71 fr73 rfl)⟩)⟩
          · replace v65p := v65p.resolve_right (by omega)
            have ho79 : SumC M66 s n p 0 (fun c q => PtOk s n o p c q) _ := ⟨_, v65p.2.2.1, by omega, mm_ok hmx hm23 v7p.2.2.2.2.1 (by omega) q1o.1 (by omega) q2o.1 (by omega)⟩
            refine s_iconst (v := 1) kx_94_63 (by decide) ?_
            refine s_goto (t := 68) kx_94_64 (by decide) ?_
            refine s_istore kx_94_68 km_94_4 rfl ?_
            refine s_aload_n kx_94_70 rfl ?_
            refine s_iload_n kx_94_71 rfl ?_
            refine s_callV2 (k := f) (s1 := 2) (s2 := 0) (as := [(0, step)]) (rest := []) kx_94_72 kp_94_31 (Or.inl rfl) rfl (tkf_0 hT51 hf) ki_10 kcl_10 rfl rfl (by decide) (f_10 (d := d + 1) (step := step) hT51 hI66 hf (Gm.fr hG51 fr66 rfl) (by omega)) (kGV (fun T81 M81 hT81 hI81 fr81 hG81 v80p => ?_))
            have hFm81 := hFm66.call fr81 rfl
            have tr82 := (fr81 5 2 rfl)
            have tr83 := (fr81 5 3 rfl)
            have tr84 := rg_5_2 hI81
            have tr85 := rg_5_3 hI81
            have hfg87 := FCg.trans (FCg.fr hfg64 hf fr66 rfl) v80p.2.2
            have hof86 := OFp.trans (OFp.fr hof54 fr66 rfl) v80p.2.1
            refine s_iload kx_94_75 rfl ?_
            exact s_iret kx_94_77 (Or.inr ⟨kq_94, by omega⟩) ⟨_, _, _, rfl, rfl, hT81, hI81, hFm81, hG81, (Or.inl ⟨rfl, ⟨by omega, by omega⟩, ⟨by omega, hof86⟩, (SumC.o (SumC.fr ho79 fr81 rfl) (FCg.op hfg87 p5))⟩)⟩
theorem f_95 {xs : Nat → Int} {Ln d : Nat} {T : List cK} {M : cM} (hT : TT T) (hI : Rng M) (h50 : M 5 0 = ((2 : Nat) : Int)) {f : Nat} (hf : fF f) (hG : Gm T M) {o k : Int} {s : Nat → Int} {n p : Int} (hA : LxA M s n p) (hL : o < 7 → Lf xs Ln d (o + 1)) (p0 : 0 ≤ o ∧ o ≤ 7) (p1 : 0 ≤ k) (p2 : M f 2 + k + 1 ≤ M 5 2) (p3 : owMx s n p = 23) : cC k_P xs Ln (d + 4) 95 [rf 4, rf f, (0, o)] (T, M) (qG T M fS_par 0 (fun v M1 => (v = 1 ∧ (M1 f 2 + k ≤ M1 5 2 ∧ (M1 5 3 = 0 ∨ M1 5 3 = 5 ∨ M1 f 2 + k + 1 ≤ M1 5 2)) ∧ (M f 2 + 1 ≤ M1 f 2 ∧ OFp f M M1) ∧ SumO M f M1 s n p 0 (fun c q => PtOk s n o p c q)) ∨ (v = 0 ∧ (M1 f 2 + k ≤ M1 5 2 ∧ OFp f M M1) ∧ SumX M1 (fun g => PtX s n o p g)))) := by
  show cP k_P xs Ln (d + 4) 95 0 [(0, rf 4), (1, rf f), (2, (0, o))] [] (T, M) _
  have hFm : Fr fS_par M M := Fr.refl
  have h51 := hA.2.1
  have h0 := hA.2.2.1
  have hpn := hA.2.2.2.1
  have h53 := hA.2.2.2.2.1
  have h55 := hA.2.2.2.2.2.1
  have h51r := rg_5_1 hI
  have h52 := rg_5_2 hI
  have h53r := rg_5_3 hI
  have hm23 := p3
  have hmx : owMx s n p ≠ 0 := by omega
  have hm1 := owMx_1 hmx
  refine s_aload_n kx_95_0 rfl ?_
  refine r_getR (k := 4) (f := 0) (k2 := 5) kx_95_1 kp_95_12 (tk_4 hT) kf_7_0 (by decide) (rq_4_0 hI) ?_
  refine s_callV2 (k := 5) (s1 := 1) (s2 := 0) (as := []) (rest := []) kx_95_4 kp_95_28 (Or.inl rfl) rfl (tk_5 hT) ki_26 kcl_26 rfl rfl (by decide) (f_26 (d := d + 1) hT hI h50 (LxA.nx hA (by omega) (by omega))) (kV (fun M2 hI2 fr2 v1p => ?_))
  have hFm2 := hFm.call fr2 rfl
  have tr3 := (fr2 f 2 (by rcases hf with rfl | rfl | rfl | rfl <;> rfl))
  have tr4 := rg_5_2 hI2
  have tr5 := rg_5_3 hI2
  have la6b := (v1p.1).2.1
  have la6c := (v1p.1).2.2.1
  have la6d := (v1p.1).2.2.2.1
  have la6e := (v1p.1).2.2.2.2.1
  have la6f := (v1p.1).2.2.2.2.2.1
  have la6z := owE_gt (s := s) (hA).2.2.2.1 (by omega)
  refine s_aload_n kx_95_7 rfl ?_
  refine s_bipush (v := 40) kx_95_8 (by decide) ?_
  refine s_iload_n kx_95_10 rfl ?_
  refine s_callV2 (k := 4) (s1 := 3) (s2 := 0) (as := [(0, o), (0, 40)]) (rest := []) kx_95_11 kp_95_52 (Or.inl rfl) rfl (tk_4 hT) ki_101 kcl_101 rfl rfl (by decide) (f_101 (d := d) (c := 40) (o := o) hT hI2 ((fr2 5 0 rfl).trans h50) v1p.1 (by omega)) (kW (fun v7 M8 hI8 fr8 v7p => ?_))
  have hFm8 := hFm2.call fr8 rfl
  have tr9 := (fr8 f 2 (by rcases hf with rfl | rfl | rfl | rfl <;> rfl))
  have tr10 := rg_5_2 hI8
  have tr11 := rg_5_3 hI8
  refine s_if_eq (t := 90) kx_95_14 (by decide) (fun hc12 => ?_) (fun hc12 => ?_)
  · replace v7p := v7p.resolve_left (by omega)
    have hx13 : SumX M8 (fun g => PtX s n o p g) := (v7p.2.2.mono (fun g z => z.elim (fun a => by rw [a.2]; exact mx_x1 hmx a.1) (fun a => by rw [a.2.2]; exact mx_x5 hmx a.1 (by omega))))
    refine s_iconst (v := 0) kx_95_90 (by decide) ?_
    refine s_istore_n kx_95_91 km_95_3 rfl ?_
    refine s_aload_n kx_95_92 rfl ?_
    refine s_bipush (v := (-20)) kx_95_93 (by decide) ?_
    refine s_callV2 (k := f) (s1 := 2) (s2 := 0) (as := [(0, (-20))]) (rest := []) kx_95_95 kp_95_31 (Or.inl rfl) rfl (tkf_0 hT hf) ki_10 kcl_10 rfl rfl (by decide) (f_10 (d := d + 1) (step := (-20)) hT hI8 hf (Gm.fr (Gm.fr hG fr2 rfl) fr8 rfl) (by omega)) (kGV (fun T15 M15 hT15 hI15 fr15 hG15 v14p => ?_))
    have hFm15 := hFm8.call fr15 rfl
    have tr16 := (fr15 5 2 rfl)
    have tr17 := (fr15 5 3 rfl)
    have tr18 := rg_5_2 hI15
    have tr19 := rg_5_3 hI15
    have hof20 := OFp.trans (OFp.fr (OFp.fr (OFp.refl (M := M)) fr2 rfl) fr8 rfl) v14p.2.1
    refine s_iload_n kx_95_98 rfl ?_
    exact s_iret kx_95_99 (Or.inr ⟨kq_95, by omega⟩) ⟨_, _, _, rfl, rfl, hT15, hI15, hFm15, hG15, (Or.inr ⟨rfl, ⟨by omega, hof20⟩, (SumX.fr hx13 fr15 rfl)⟩)⟩
  · replace v7p := v7p.resolve_right (by omega)
    refine s_aload_n kx_95_17 rfl ?_
    refine s_aload_n kx_95_18 rfl ?_
    refine s_iload_n kx_95_19 rfl ?_
    refine s_iconst (v := 1) kx_95_20 (by decide) ?_
    refine r_add kx_95_21 ⟨by omega, by omega⟩ ?_
    refine s_callV2 (k := 4) (s1 := 3) (s2 := 0) (as := [(0, (o + 1)), rf f]) (rest := []) kx_95_22 kp_95_73 (Or.inl rfl) rfl (tk_4 hT) ki_96 kcl_96 rfl rfl (by decide) (cC.deep ((hL (by omega)).2.1 (k := k + 1) hT hI8 ((fr8 5 0 rfl).trans ((fr2 5 0 rfl).trans h50)) hf (Gm.fr (Gm.fr hG fr2 rfl) fr8 rfl) v7p.2.2.2.2.2 (by omega) (by omega)) (by omega)) (kG (fun v21 T22 M22 hT22 hI22 fr22 hG22 v21p => ?_))
    have hFm22 := hFm8.call fr22 rfl
    have tr23 := rg_5_2 hI22
    have tr24 := rg_5_3 hI22
    have hof25 := OFp.trans (OFp.fr (OFp.fr (OFp.refl (M := M)) fr2 rfl) fr8 rfl) (v21p.elim (fun z => z.2.2.1.2) (fun z => z.2.1.2))
    refine s_if_eq (t := 90) kx_95_25 (by decide) (fun hc26 => ?_) (fun hc26 => ?_)
    · replace v21p := v21p.resolve_left (by omega)
      have hx27 : SumX M22 (fun g => PtX s n o p g) := (v21p.2.2.mono (fun g z => wh_x hm23 v7p.2.2.2.2.1 (by omega) (Or.inl z)))
      refine s_iconst (v := 0) kx_95_90 (by decide) ?_
      refine s_istore_n kx_95_91 km_95_3 rfl ?_
      refine s_aload_n kx_95_92 rfl ?_
      refine s_bipush (v := (-20)) kx_95_93 (by decide) ?_
      refine s_callV2 (k := f) (s1 := 2) (s2 := 0) (as := [(0, (-20))]) (rest := []) kx_95_95 kp_95_31 (Or.inl rfl) rfl (tkf_0 hT22 hf) ki_10 kcl_10 rfl rfl (by decide) (f_10 (d := d + 1) (step := (-20)) hT22 hI22 hf hG22 (by omega)) (kGV (fun T29 M29 hT29 hI29 fr29 hG29 v28p => ?_))
      have hFm29 := hFm22.call fr29 rfl
      have tr30 := (fr29 5 2 rfl)
      have tr31 := (fr29 5 3 rfl)
      have tr32 := rg_5_2 hI29
      have tr33 := rg_5_3 hI29
      have hof34 := OFp.trans hof25 v28p.2.1
      refine s_iload_n kx_95_98 rfl ?_
      exact s_iret kx_95_99 (Or.inr ⟨kq_95, by omega⟩) ⟨_, _, _, rfl, rfl, hT29, hI29, hFm29, hG29, (Or.inr ⟨rfl, ⟨by omega, hof34⟩, (SumX.fr hx27 fr29 rfl)⟩)⟩
    · replace v21p := v21p.resolve_right (by omega)
      obtain ⟨c1, q1, q1l, q1p, q1o, q1g⟩ := v21p.2.2.2
      have hfg35 := FCg.trans0 (FCg.fr (FCg.fr (FCg.refl (rgf_0_2 hI hf).1) hf fr2 rfl) hf fr8 rfl) q1g
      have q1b := q1l.2.1
      have q1c := q1l.2.2.1
      have q1d := q1l.2.2.2.1
      have q1e := q1l.2.2.2.2.1
      have q1f := q1l.2.2.2.2.2.1
      refine s_aload_n kx_95_28 rfl ?_
      refine r_getR (k := 4) (f := 0) (k2 := 5) kx_95_29 kp_95_12 (tk_4 hT22) kf_7_0 (by decide) (rq_4_0 hI22) ?_
      refine s_bipush (v := 44) kx_95_32 (by decide) ?_
      refine s_callV2 (k := 5) (s1 := 2) (s2 := 0) (as := [(0, 44)]) (rest := []) kx_95_34 kp_95_59 (Or.inl rfl) rfl (tk_5 hT22) ki_24 kcl_24 rfl rfl (by decide) (f_24 (d := d) (c := 44) hT22 hI22 ((fr22 5 0 rfl).trans ((fr8 5 0 rfl).trans ((fr2 5 0 rfl).trans h50))) q1l) (kW (fun v36 M37 hI37 fr37 v36p => ?_))
      have hFm37 := hFm22.call fr37 rfl
      have tr38 := (fr37 f 2 (by rcases hf with rfl | rfl | rfl | rfl <;> rfl))
      have tr39 := rg_5_2 hI37
      have tr40 := rg_5_3 hI37
      refine s_if_eq (t := 90) kx_95_37 (by decide) (fun hc41 => ?_) (fun hc41 => ?_)
      · replace v36p := v36p.resolve_left (by omega)
        have hx42 : SumX M37 (fun g => PtX s n o p g) := (SumX.un v36p.2.2.1 (by omega) (wh_x hm23 v7p.2.2.2.2.1 (by omega) (Or.inr ⟨_, _, q1o.1, Or.inl ⟨q1o.2, by omega, rfl⟩⟩)))
        refine s_iconst (v := 0) kx_95_90 (by decide) ?_
        refine s_istore_n kx_95_91 km_95_3 rfl ?_
        refine s_aload_n kx_95_92 rfl ?_
        refine s_bipush (v := (-20)) kx_95_93 (by decide) ?_
        refine s_callV2 (k := f) (s1 := 2) (s2 := 0) (as := [(0, (-20))]) (rest := []) kx_95_95 kp_95_31 (Or.inl rfl) rfl (tkf_0 hT22 hf) ki_10 kcl_10 rfl rfl (by decide) (f_10 (d := d + 1) (step := (-20)) hT22 hI37 hf (Gm.fr hG22 fr37 rfl) (by omega)) (kGV (fun T44 M44 hT44 hI44 fr44 hG44 v43p => ?_))
        have hFm44 := hFm37.call fr44 rfl
        have tr45 := (fr44 5 2 rfl)
        have tr46 := (fr44 5 3 rfl)
        have tr47 := rg_5_2 hI44
        have tr48 := rg_5_3 hI44
        have hof49 := OFp.trans (OFp.fr hof25 fr37 rfl) v43p.2.1
        refine s_iload_n kx_95_98 rfl ?_
        exact s_iret kx_95_99 (Or.inr ⟨kq_95, by omega⟩) ⟨_, _, _, rfl, rfl, hT44, hI44, hFm44, hG44, (Or.inr ⟨rfl, ⟨by omega, hof49⟩, (SumX.fr hx42 fr44 rfl)⟩)⟩
      · replace v36p := v36p.resolve_right (by omega)
        refine s_aload_n kx_95_40 rfl ?_
        refine s_aload_n kx_95_41 rfl ?_
        refine s_iload_n kx_95_42 rfl ?_
        refine s_iconst (v := 1) kx_95_43 (by decide) ?_
        refine r_add kx_95_44 ⟨by omega, by omega⟩ ?_
        refine s_callV2 (k := 4) (s1 := 3) (s2 := 0) (as := [(0, (o + 1)), rf f]) (rest := []) kx_95_45 kp_95_56 (Or.inl rfl) rfl (tk_4 hT22) ki_89 kcl_89 rfl rfl (by decide) (cC.deep ((hL (by omega)).1 (k := k + 1) hT22 hI37 ((fr37 5 0 rfl).trans ((fr22 5 0 rfl).trans ((fr8 5 0 rfl).trans ((fr2 5 0 rfl).trans h50)))) hf (Gm.fr hG22 fr37 rfl) v36p.2.2.1 (by omega) (by omega)) (by omega)) (kG (fun v50 T51 M51 hT51 hI51 fr51 hG51 v50p => ?_))
        have hFm51 := hFm37.call fr51 rfl
        have tr52 := rg_5_2 hI51
        have tr53 := rg_5_3 hI51
        have hof54 := OFp.trans (OFp.fr hof25 fr37 rfl) (v50p.elim (fun z => z.2.2.1.2) (fun z => z.2.1.2))
        refine s_if_eq (t := 90) kx_95_48 (by decide) (fun hc55 => ?_) (fun hc55 => ?_)
        · replace v50p := v50p.resolve_left (by omega)
          have hx56 : SumX M51 (fun g => PtX s n o p g) := (v50p.2.2.mono (fun g z => wh_x hm23 v7p.2.2.2.2.1 (by omega) (Or.inr ⟨_, _, q1o.1, Or.inr ⟨by omega, Or.inl z⟩⟩)))
          refine s_iconst (v := 0) kx_95_90 (by decide) ?_
          refine s_istore_n kx_95_91 km_95_3 rfl ?_
          refine s_aload_n kx_95_92 rfl ?_
          refine s_bipush (v := (-20)) kx_95_93 (by decide) ?_
          refine s_callV2 (k := f) (s1 := 2) (s2 := 0) (as := [(0, (-20))]) (rest := []) kx_95_95 kp_95_31 (Or.inl rfl) rfl (tkf_0 hT51 hf) ki_10 kcl_10 rfl rfl (by decide) (f_10 (d := d + 1) (step := (-20)) hT51 hI51 hf hG51 (by omega)) (kGV (fun T58 M58 hT58 hI58 fr58 hG58 v57p => ?_))
          have hFm58 := hFm51.call fr58 rfl
          have tr59 := (fr58 5 2 rfl)
          have tr60 := (fr58 5 3 rfl)
          have tr61 := rg_5_2 hI58
          have tr62 := rg_5_3 hI58
          have hof63 := OFp.trans hof54 v57p.2.1
          refine s_iload_n kx_95_98 rfl ?_
          exact s_iret kx_95_99 (Or.inr ⟨kq_95, by omega⟩) ⟨_, _, _, rfl, rfl, hT58, hI58, hFm58, hG58, (Or.inr ⟨rfl, ⟨by omega, hof63⟩, (SumX.fr hx56 fr58 rfl)⟩)⟩
        · replace v50p := v50p.resolve_right (by omega)
          obtain ⟨c2, q2, q2l, q2p, q2o, q2g⟩ := v50p.2.2.2
          have hfg64 := FCg.trans (FCg.fr hfg35 hf fr37 rfl) q2g
          have q2b := q2l.2.1
          have q2c := q2l.2.2.1
          have q2d := q2l.2.2.2.1
          have q2e := q2l.2.2.2.2.1
          have q2f := q2l.2.2.2.2.2.1
          refine s_aload_n kx_95_51 rfl ?_
          refine r_getR (k := 4) (f := 0) (k2 := 5) kx_95_52 kp_95_12 (tk_4 hT51) kf_7_0 (by decide) (rq_4_0 hI51) ?_
          refine s_bipush (v := 44) kx_95_55 (by decide) ?_
          refine s_callV2 (k := 5) (s1 := 2) (s2 := 0) (as := [(0, 44)]) (rest := []) kx_95_57 kp_95_59 (Or.inl rfl) rfl (tk_5 hT51) ki_24 kcl_24 rfl rfl (by decide) (f_24 (d := d) (c := 44) hT51 hI51 ((fr51 5 0 rfl).trans ((fr37 5 0 rfl).trans ((fr22 5 0 rfl).trans ((fr8 5 0 rfl).trans ((fr2 5 0 rfl).trans h50))))) q2l) (kW (fun v65 M66 hI66 fr66 v65p => ?_))
          have hFm66 := hFm51.call fr66 rfl
          have tr67 := (fr66 f 2 (by rcases hf with rfl | rfl | rfl | rfl <;> rfl))
          have tr68 := rg_5_2 hI66
          have tr69 := rg_5_3 hI66
          refine s_if_eq (t := 90) kx_95_60 (by decide) (fun hc70 => ?_) (fun hc70 => ?_)
          · replace v65p := v65p.resolve_left (by omega)
            have hx71 : SumX M66 (fun g => PtX s n o p g) := (SumX.un v65p.2.2.1 (by omega) (wh_x hm23 v7p.2.2.2.2.1 (by omega) (Or.inr ⟨_, _, q1o.1, Or.inr ⟨by omega, Or.inr ⟨_, _, q2o.1, Or.inl ⟨q2o.2, by omega, rfl⟩⟩⟩⟩)))
            refine s_iconst (v := 0) kx_95_90 (by decide) ?_
            refine s_istore_n kx_95_91 km_95_3 rfl ?_
            refine s_aload_n kx_95_92 rfl ?_
            refine s_bipush (v := (-20)) kx_95_93 (by decide) ?_
            refine s_callV2 (k := f) (s1 := 2) (s2 := 0) (as := [(0, (-20))]) (rest := []) kx_95_95 kp_95_31 (Or.inl rfl) rfl (tkf_0 hT51 hf) ki_10 kcl_10 rfl rfl (by decide) (f_10 (d := d + 1) (step := (-20)) hT51 hI66 hf (Gm.fr hG51 fr66 rfl) (by omega)) (kGV (fun T73 M73 hT73 hI73 fr73 hG73 v72p => ?_))
            have hFm73 := hFm66.call fr73 rfl
            have tr74 := (fr73 5 2 rfl)
            have tr75 := (fr73 5 3 rfl)
            have tr76 := rg_5_2 hI73
            have tr77 := rg_5_3 hI73
            have hof78 := OFp.trans (OFp.fr hof54 fr66 rfl) v72p.2.1
            refine s_iload_n kx_95_98 rfl ?_
            exact s_iret kx_95_99 (Or.inr ⟨kq_95, by omega⟩) ⟨_, _, _, rfl, rfl, hT73, hI73, hFm73, hG73, (Or.inr ⟨rfl, ⟨by omega, hof78⟩, (SumX.fr hx71 fr73 rfl)⟩)⟩
          · replace v65p := v65p.resolve_right (by omega)
            refine s_aload_n kx_95_63 rfl ?_
            refine s_aload_n kx_95_64 rfl ?_
            refine s_iload_n kx_95_65 rfl ?_
            refine s_iconst (v := 1) kx_95_66 (by decide) ?_
            refine r_add kx_95_67 ⟨by omega, by omega⟩ ?_
            refine s_callV2 (k := 4) (s1 := 3) (s2 := 0) (as := [(0, (o + 1)), rf f]) (rest := []) kx_95_68 kp_95_56 (Or.inl rfl) rfl (tk_4 hT51) ki_89 kcl_89 rfl rfl (by decide) (cC.deep ((hL (by omega)).1 (k := k + 1) hT51 hI66 ((fr66 5 0 rfl).trans ((fr51 5 0 rfl).trans ((fr37 5 0 rfl).trans ((fr22 5 0 rfl).trans ((fr8 5 0 rfl).trans ((fr2 5 0 rfl).trans h50)))))) hf (Gm.fr hG51 fr66 rfl) v65p.2.2.1 (by omega) (by omega)) (by omega)) (kG (fun v79 T80 M80 hT80 hI80 fr80 hG80 v79p => ?_))
            have hFm80 := hFm66.call fr80 rfl
            have tr81 := rg_5_2 hI80
            have tr82 := rg_5_3 hI80
            have hof83 := OFp.trans (OFp.fr hof54 fr66 rfl) (v79p.elim (fun z => z.2.2.1.2) (fun z => z.2.1.2))
            refine s_if_eq (t := 90) kx_95_71 (by decide) (fun hc84 => ?_) (fun hc84 => ?_)
            · replace v79p := v79p.resolve_left (by omega)
              have hx85 : SumX M80 (fun g => PtX s n o p g) := (v79p.2.2.mono (fun g z => wh_x hm23 v7p.2.2.2.2.1 (by omega) (Or.inr ⟨_, _, q1o.1, Or.inr ⟨by omega, Or.inr ⟨_, _, q2o.1, Or.inr ⟨by omega, Or.inl z⟩⟩⟩⟩)))
              refine s_iconst (v := 0) kx_95_90 (by decide) ?_
              refine s_istore_n kx_95_91 km_95_3 rfl ?_
              refine s_aload_n kx_95_92 rfl ?_
              refine s_bipush (v := (-20)) kx_95_93 (by decide) ?_
              refine s_callV2 (k := f) (s1 := 2) (s2 := 0) (as := [(0, (-20))]) (rest := []) kx_95_95 kp_95_31 (Or.inl rfl) rfl (tkf_0 hT80 hf) ki_10 kcl_10 rfl rfl (by decide) (f_10 (d := d + 1) (step := (-20)) hT80 hI80 hf hG80 (by omega)) (kGV (fun T87 M87 hT87 hI87 fr87 hG87 v86p => ?_))
              have hFm87 := hFm80.call fr87 rfl
              have tr88 := (fr87 5 2 rfl)
              have tr89 := (fr87 5 3 rfl)
              have tr90 := rg_5_2 hI87
              have tr91 := rg_5_3 hI87
              have hof92 := OFp.trans hof83 v86p.2.1
              refine s_iload_n kx_95_98 rfl ?_
              exact s_iret kx_95_99 (Or.inr ⟨kq_95, by omega⟩) ⟨_, _, _, rfl, rfl, hT87, hI87, hFm87, hG87, (Or.inr ⟨rfl, ⟨by omega, hof92⟩, (SumX.fr hx85 fr87 rfl)⟩)⟩
            · replace v79p := v79p.resolve_right (by omega)
              obtain ⟨c3, q3, q3l, q3p, q3o, q3g⟩ := v79p.2.2.2
              have hfg93 := FCg.trans (FCg.fr hfg64 hf fr66 rfl) q3g
              have q3b := q3l.2.1
              have q3c := q3l.2.2.1
              have q3d := q3l.2.2.2.1
              have q3e := q3l.2.2.2.2.1
              have q3f := q3l.2.2.2.2.2.1
              refine s_aload_n kx_95_74 rfl ?_
              refine r_getR (k := 4) (f := 0) (k2 := 5) kx_95_75 kp_95_12 (tk_4 hT80) kf_7_0 (by decide) (rq_4_0 hI80) ?_
              refine s_bipush (v := 41) kx_95_78 (by decide) ?_
              refine s_callV2 (k := 5) (s1 := 2) (s2 := 0) (as := [(0, 41)]) (rest := []) kx_95_80 kp_95_59 (Or.inl rfl) rfl (tk_5 hT80) ki_24 kcl_24 rfl rfl (by decide) (f_24 (d := d) (c := 41) hT80 hI80 ((fr80 5 0 rfl).trans ((fr66 5 0 rfl).trans ((fr51 5 0 rfl).trans ((fr37 5 0 rfl).trans ((fr22 5 0 rfl).trans ((fr8 5 0 rfl).trans ((fr2 5 0 rfl).trans h50))))))) q3l) (kW (fun v94 M95 hI95 fr95 v94p => ?_))
              have hFm95 := hFm80.call fr95 rfl
              have tr96 := (fr95 f 2 (by rcases hf with rfl | rfl | rfl | rfl <;> rfl))
              have tr97 := rg_5_2 hI95
              have tr98 := rg_5_3 hI95
              refine s_if_eq (t := 90) kx_95_83 (by decide) (fun hc99 => ?_) (fun hc99 => ?_)
              · replace v94p := v94p.resolve_left (by omega)
                have hx100 : SumX M95 (fun g => PtX s n o p g) := (SumX.un v94p.2.2.1 (by omega) (wh_x hm23 v7p.2.2.2.2.1 (by omega) (Or.inr ⟨_, _, q1o.1, Or.inr ⟨by omega, Or.inr ⟨_, _, q2o.1, Or.inr ⟨by omega, Or.inr ⟨_, _, q3o.1, q3o.2, by omega, rfl⟩⟩⟩⟩⟩)))
                refine s_iconst (v := 0) kx_95_90 (by decide) ?_
                refine s_istore_n kx_95_91 km_95_3 rfl ?_
                refine s_aload_n kx_95_92 rfl ?_
                refine s_bipush (v := (-20)) kx_95_93 (by decide) ?_
                refine s_callV2 (k := f) (s1 := 2) (s2 := 0) (as := [(0, (-20))]) (rest := []) kx_95_95 kp_95_31 (Or.inl rfl) rfl (tkf_0 hT80 hf) ki_10 kcl_10 rfl rfl (by decide) (f_10 (d := d + 1) (step := (-20)) hT80 hI95 hf (Gm.fr hG80 fr95 rfl) (by omega)) (kGV (fun T102 M102 hT102 hI102 fr102 hG102 v101p => ?_))
                have hFm102 := hFm95.call fr102 rfl
                have tr103 := (fr102 5 2 rfl)
                have tr104 := (fr102 5 3 rfl)
                have tr105 := rg_5_2 hI102
                have tr106 := rg_5_3 hI102
                have hof107 := OFp.trans (OFp.fr hof83 fr95 rfl) v101p.2.1
                refine s_iload_n kx_95_98 rfl ?_
                exact s_iret kx_95_99 (Or.inr ⟨kq_95, by omega⟩) ⟨_, _, _, rfl, rfl, hT102, hI102, hFm102, hG102, (Or.inr ⟨rfl, ⟨by omega, hof107⟩, (SumX.fr hx100 fr102 rfl)⟩)⟩
              · replace v94p := v94p.resolve_right (by omega)
                have ho108 : SumC M95 s n p 0 (fun c q => PtOk s n o p c q) _ := ⟨_, v94p.2.2.1, by omega, wh_ok hm23 v7p.2.2.2.2.1 (by omega) q1o.1 (by omega) q2o.1 (by omega) q3o.1 (by omega)⟩
                refine s_iconst (v := 1) kx_95_86 (by decide) ?_
                refine s_goto (t := 91) kx_95_87 (by decide) ?_
                refine s_istore_n kx_95_91 km_95_3 rfl ?_
                refine s_aload_n kx_95_92 rfl ?_
                refine s_bipush (v := (-20)) kx_95_93 (by decide) ?_
                refine s_callV2 (k := f) (s1 := 2) (s2 := 0) (as := [(0, (-20))]) (rest := []) kx_95_95 kp_95_31 (Or.inl rfl) rfl (tkf_0 hT80 hf) ki_10 kcl_10 rfl rfl (by decide) (f_10 (d := d + 1) (step := (-20)) hT80 hI95 hf (Gm.fr hG80 fr95 rfl) (by omega)) (kGV (fun T110 M110 hT110 hI110 fr110 hG110 v109p => ?_))
                have hFm110 := hFm95.call fr110 rfl
                have tr111 := (fr110 5 2 rfl)
                have tr112 := (fr110 5 3 rfl)
                have tr113 := rg_5_2 hI110
                have tr114 := rg_5_3 hI110
                have hfg116 := FCg.trans (FCg.fr hfg93 hf fr95 rfl) v109p.2.2
                have hof115 := OFp.trans (OFp.fr hof83 fr95 rfl) v109p.2.1
                refine s_iload_n kx_95_98 rfl ?_
                exact s_iret kx_95_99 (Or.inr ⟨kq_95, by omega⟩) ⟨_, _, _, rfl, rfl, hT110, hI110, hFm110, hG110, (Or.inl ⟨rfl, ⟨by omega, by omega⟩, ⟨by omega, hof115⟩, (SumC.o (SumC.fr ho108 fr110 rfl) (FCg.op hfg116 rfl))⟩)⟩
theorem f_92 {xs : Nat → Int} {Ln d : Nat} {T : List cK} {M : cM} (hT : TT T) (hI : Rng M) (h50 : M 5 0 = ((2 : Nat) : Int)) {f : Nat} (hf : fF f) (hG : Gm T M) {o k : Int} {s : Nat → Int} {n p : Int} (hA : LxA M s n p) (hL : o < 7 → Lf xs Ln d (o + 1)) (p0 : 0 ≤ o ∧ o ≤ 7) (p1 : 0 ≤ k) (p2 : M f 2 + k ≤ M 5 2 ∧ (M 5 3 = 0 ∨ M 5 3 = 5 ∨ M f 2 + k + 1 ≤ M 5 2)) : cC k_P xs Ln (d + 5) 92 [rf 4, rf f, (0, o)] (T, M) (qG T M fS_par 0 (fun v M1 => (v = 1 ∧ (M1 f 2 + k ≤ M1 5 2 ∧ (M1 5 3 = 0 ∨ M1 5 3 = 5 ∨ M1 f 2 + k + 1 ≤ M1 5 2)) ∧ (M f 2 + 1 ≤ M1 f 2 ∧ OFp f M M1) ∧ SumO M f M1 s n p 0 (fun c q => PtOk s n o p c q)) ∨ (v = 0 ∧ (M1 f 2 + k ≤ M1 5 2 ∧ OFp f M M1) ∧ SumX M1 (fun g => PtX s n o p g)))) := by
  show cP k_P xs Ln (d + 5) 92 0 [(0, rf 4), (1, rf f), (2, (0, o))] [] (T, M) _
  have hFm : Fr fS_par M M := Fr.refl
  have h51 := hA.2.1
  have h0 := hA.2.2.1
  have hpn := hA.2.2.2.1
  have h53 := hA.2.2.2.2.1
  have h55 := hA.2.2.2.2.2.1
  have h51r := rg_5_1 hI
  have h52 := rg_5_2 hI
  have h53r := rg_5_3 hI
  refine s_aload_n kx_92_0 rfl ?_
  refine r_getR (k := 4) (f := 0) (k2 := 5) kx_92_1 kp_92_12 (tk_4 hT) kf_7_0 (by decide) (rq_4_0 hI) ?_
  refine r_getI (k := 5) (f := 3) kx_92_4 kp_92_42 (tk_5 hT) kf_3_3 (fun _ => rfl) (rg_5_3 hI) (fun v1 v1e v1a v1b => ?_)
  refine s_iconst (v := 3) kx_92_7 (by decide) ?_
  refine s_icmp_ne (t := 24) kx_92_8 (by decide) (fun hc2 => ?_) (fun hc2 => ?_)
  · refine s_aload_n kx_92_24 rfl ?_
    refine r_getR (k := 4) (f := 0) (k2 := 5) kx_92_25 kp_92_12 (tk_4 hT) kf_7_0 (by decide) (rq_4_0 hI) ?_
    refine s_bipush (v := 40) kx_92_28 (by decide) ?_
    refine s_callV2 (k := 5) (s1 := 2) (s2 := 0) (as := [(0, 40)]) (rest := []) kx_92_30 kp_92_22 (Or.inl rfl) rfl (tk_5 hT) ki_23 kcl_23 rfl rfl (by decide) (f_23 (d := d + 4) (c := 40) hT hI hA) (kF (fun v3 v3p => ?_))
    refine s_if_eq (t := 75) kx_92_33 (by decide) (fun hc4 => ?_) (fun hc4 => ?_)
    · replace v3p := v3p.resolve_left (by omega)
      refine s_aload_n kx_92_75 rfl ?_
      refine r_getR (k := 4) (f := 0) (k2 := 5) kx_92_76 kp_92_12 (tk_4 hT) kf_7_0 (by decide) (rq_4_0 hI) ?_
      refine r_getK (k := 5) (f := 3) kx_92_79 kp_92_42 (tk_5 hT) kf_3_3 (fun _ => rfl) v1e ?_
      refine s_iconst (v := 1) kx_92_82 (by decide) ?_
      refine s_icmp_eq (t := 94) kx_92_83 (by decide) (fun hc5 => ?_) (fun hc5 => ?_)
      · refine s_aload_n kx_92_94 rfl ?_
        refine r_getR (k := 4) (f := 0) (k2 := 5) kx_92_95 kp_92_12 (tk_4 hT) kf_7_0 (by decide) (rq_4_0 hI) ?_
        refine r_getU (k := 5) (f := 4) kx_92_98 kp_92_46 (tk_5 hT) kf_3_4 (fun _ => rfl) (fun v6 v6e => ?_)
        rcases (by omega : v6 = 113741152 ∨ v6 = 308281344 ∨ v6 = 438042624 ∨ v6 = 446103552 ∨ v6 = 527892480 ∨ v6 = 659111367 ∨ v6 = 672503392 ∨ v6 = 777297172 ∨ v6 = 781325312 ∨ (¬ v6 = 113741152 ∧ ¬ v6 = 308281344 ∧ ¬ v6 = 438042624 ∧ ¬ v6 = 446103552 ∧ ¬ v6 = 527892480 ∧ ¬ v6 = 659111367 ∧ ¬ v6 = 672503392 ∧ ¬ v6 = 777297172 ∧ ¬ v6 = 781325312)) with hs7 | hs7 | hs7 | hs7 | hs7 | hs7 | hs7 | hs7 | hs7 | hs7
        · refine s_lsw (t := 215) kx_92_101 (by decide) 113741152 hs7 (by decide) ?_
          have hwd := wd_of (s := s) (n := n) (p := p) (w := 113741152) (by omega) (by have := hA.2.2.2.2.2.2.2.2 (by omega) (by omega); omega)
          have hcd := cd_of (z := -5) hwd (by omega)
          refine s_aload_n kx_92_215 rfl ?_
          refine s_aload_n kx_92_216 rfl ?_
          refine s_bipush (v := (-5)) kx_92_217 (by decide) ?_
          refine s_callV2 (k := 4) (s1 := 3) (s2 := 0) (as := [(0, (-5)), rf f]) (rest := []) kx_92_219 kp_92_49 (Or.inl rfl) rfl (tk_4 hT) ki_93 kcl_93 rfl rfl (by decide) (f_93 (d := d + 1) (step := (-5)) (k := k) hT hI h50 hf hG hA (by omega) (by omega) (by omega)) (kG (fun v8 T9 M9 hT9 hI9 fr9 hG9 v8p => ?_))
          have hFm9 := hFm.call fr9 rfl
          have tr10 := rg_5_2 hI9
          have tr11 := rg_5_3 hI9
          have hfg13 := FCg.trans0 (FCg.refl (rgf_0_2 hI hf).1) v8p.2.2.2.2
          have hof12 := OFp.trans (OFp.refl (M := M)) v8p.2.2.1.2
          exact s_iret kx_92_222 (Or.inr ⟨kq_92, by omega⟩) ⟨_, _, _, rfl, rfl, hT9, hI9, hFm9, hG9, (Or.inl ⟨v8p.1, v8p.2.1, ⟨by omega, hof12⟩, ⟨_, _, v8p.2.2.2.1, by omega, pt_wrd (by omega) (by omega), FCg.sub1 hfg13 (by omega)⟩⟩)⟩
        · refine s_lsw (t := 249) kx_92_101 (by decide) 308281344 hs7 (by decide) ?_
          have hwd := wd_of (s := s) (n := n) (p := p) (w := 308281344) (by omega) (by have := hA.2.2.2.2.2.2.2.2 (by omega) (by omega); omega)
          have hmx := mx_of (z := 23) hwd (by omega)
          refine s_aload_n kx_92_249 rfl ?_
          refine s_aload_n kx_92_250 rfl ?_
          refine s_iload_n kx_92_251 rfl ?_
          refine s_callV2 (k := 4) (s1 := 3) (s2 := 0) (as := [(0, o), rf f]) (rest := []) kx_92_252 kp_92_70 (Or.inl rfl) rfl (tk_4 hT) ki_95 kcl_95 rfl rfl (by decide) (f_95 (d := d) (o := o) (k := k) hT hI h50 hf hG hA (fun h => (hL h).deep (by omega)) (by omega) (by omega) (by omega) (by omega)) (kG (fun v14 T15 M15 hT15 hI15 fr15 hG15 v14p => ?_))
          have hFm15 := hFm.call fr15 rfl
          have tr16 := rg_5_2 hI15
          have tr17 := rg_5_3 hI15
          have hof18 := OFp.trans (OFp.refl (M := M)) (v14p.elim (fun z => z.2.2.1.2) (fun z => z.2.1.2))
          exact s_iret kx_92_255 (Or.inr ⟨kq_92, by omega⟩) ⟨_, _, _, rfl, rfl, hT15, hI15, hFm15, hG15, v14p⟩
        · refine s_lsw (t := 240) kx_92_101 (by decide) 438042624 hs7 (by decide) ?_
          have hwd := wd_of (s := s) (n := n) (p := p) (w := 438042624) (by omega) (by have := hA.2.2.2.2.2.2.2.2 (by omega) (by omega); omega)
          have hmx := mx_of (z := 16) hwd (by omega)
          refine s_aload_n kx_92_240 rfl ?_
          refine s_aload_n kx_92_241 rfl ?_
          refine s_iload_n kx_92_242 rfl ?_
          refine s_bipush (v := (-13)) kx_92_243 (by decide) ?_
          refine s_callV2 (k := 4) (s1 := 4) (s2 := 0) (as := [(0, (-13)), (0, o), rf f]) (rest := []) kx_92_245 kp_92_66 (Or.inl rfl) rfl (tk_4 hT) ki_94 kcl_94 rfl rfl (by decide) (f_94 (d := d) (o := o) (step := (-13)) (k := k) hT hI h50 hf hG hA (fun h => (hL h).deep (by omega)) (by omega) (by omega) (by omega) (by omega) (by omega) (by omega)) (kG (fun v19 T20 M20 hT20 hI20 fr20 hG20 v19p => ?_))
          have hFm20 := hFm.call fr20 rfl
          have tr21 := rg_5_2 hI20
          have tr22 := rg_5_3 hI20
          have hof23 := OFp.trans (OFp.refl (M := M)) (v19p.elim (fun z => z.2.2.1.2) (fun z => z.2.1.2))
          exact s_iret kx_92_248 (Or.inr ⟨kq_92, by omega⟩) ⟨_, _, _, rfl, rfl, hT20, hI20, hFm20, hG20, v19p⟩
        · refine s_lsw (t := 231) kx_92_101 (by decide) 446103552 hs7 (by decide) ?_
          have hwd := wd_of (s := s) (n := n) (p := p) (w := 446103552) (by omega) (by have := hA.2.2.2.2.2.2.2.2 (by omega) (by omega); omega)
          have hmx := mx_of (z := 15) hwd (by omega)
          refine s_aload_n kx_92_231 rfl ?_
          refine s_aload_n kx_92_232 rfl ?_
          refine s_iload_n kx_92_233 rfl ?_
          refine s_bipush (v := (-12)) kx_92_234 (by decide) ?_
          refine s_callV2 (k := 4) (s1 := 4) (s2 := 0) (as := [(0, (-12)), (0, o), rf f]) (rest := []) kx_92_236 kp_92_66 (Or.inl rfl) rfl (tk_4 hT) ki_94 kcl_94 rfl rfl (by decide) (f_94 (d := d) (o := o) (step := (-12)) (k := k) hT hI h50 hf hG hA (fun h => (hL h).deep (by omega)) (by omega) (by omega) (by omega) (by omega) (by omega) (by omega)) (kG (fun v24 T25 M25 hT25 hI25 fr25 hG25 v24p => ?_))
          have hFm25 := hFm.call fr25 rfl
          have tr26 := rg_5_2 hI25
          have tr27 := rg_5_3 hI25
          have hof28 := OFp.trans (OFp.refl (M := M)) (v24p.elim (fun z => z.2.2.1.2) (fun z => z.2.1.2))
          exact s_iret kx_92_239 (Or.inr ⟨kq_92, by omega⟩) ⟨_, _, _, rfl, rfl, hT25, hI25, hFm25, hG25, v24p⟩
        · refine s_lsw (t := 223) kx_92_101 (by decide) 527892480 hs7 (by decide) ?_
          have hwd := wd_of (s := s) (n := n) (p := p) (w := 527892480) (by omega) (by have := hA.2.2.2.2.2.2.2.2 (by omega) (by omega); omega)
          have hcd := cd_of (z := -6) hwd (by omega)
          refine s_aload_n kx_92_223 rfl ?_
          refine s_aload_n kx_92_224 rfl ?_
          refine s_bipush (v := (-6)) kx_92_225 (by decide) ?_
          refine s_callV2 (k := 4) (s1 := 3) (s2 := 0) (as := [(0, (-6)), rf f]) (rest := []) kx_92_227 kp_92_49 (Or.inl rfl) rfl (tk_4 hT) ki_93 kcl_93 rfl rfl (by decide) (f_93 (d := d + 1) (step := (-6)) (k := k) hT hI h50 hf hG hA (by omega) (by omega) (by omega)) (kG (fun v29 T30 M30 hT30 hI30 fr30 hG30 v29p => ?_))
          have hFm30 := hFm.call fr30 rfl
          have tr31 := rg_5_2 hI30
          have tr32 := rg_5_3 hI30
          have hfg34 := FCg.trans0 (FCg.refl (rgf_0_2 hI hf).1) v29p.2.2.2.2
          have hof33 := OFp.trans (OFp.refl (M := M)) v29p.2.2.1.2
          exact s_iret kx_92_230 (Or.inr ⟨kq_92, by omega⟩) ⟨_, _, _, rfl, rfl, hT30, hI30, hFm30, hG30, (Or.inl ⟨v29p.1, v29p.2.1, ⟨by omega, hof33⟩, ⟨_, _, v29p.2.2.2.1, by omega, pt_wrd (by omega) (by omega), FCg.sub1 hfg34 (by omega)⟩⟩)⟩
        · refine s_lsw (t := 199) kx_92_101 (by decide) 659111367 hs7 (by decide) ?_
          have hwd := wd_of (s := s) (n := n) (p := p) (w := 659111367) (by omega) (by have := hA.2.2.2.2.2.2.2.2 (by omega) (by omega); omega)
          have hcd := cd_of (z := -3) hwd (by omega)
          refine s_aload_n kx_92_199 rfl ?_
          refine s_aload_n kx_92_200 rfl ?_
          refine s_bipush (v := (-3)) kx_92_201 (by decide) ?_
          refine s_callV2 (k := 4) (s1 := 3) (s2 := 0) (as := [(0, (-3)), rf f]) (rest := []) kx_92_203 kp_92_49 (Or.inl rfl) rfl (tk_4 hT) ki_93 kcl_93 rfl rfl (by decide) (f_93 (d := d + 1) (step := (-3)) (k := k) hT hI h50 hf hG hA (by omega) (by omega) (by omega)) (kG (fun v35 T36 M36 hT36 hI36 fr36 hG36 v35p => ?_))
          have hFm36 := hFm.call fr36 rfl
          have tr37 := rg_5_2 hI36
          have tr38 := rg_5_3 hI36
          have hfg40 := FCg.trans0 (FCg.refl (rgf_0_2 hI hf).1) v35p.2.2.2.2
          have hof39 := OFp.trans (OFp.refl (M := M)) v35p.2.2.1.2
          exact s_iret kx_92_206 (Or.inr ⟨kq_92, by omega⟩) ⟨_, _, _, rfl, rfl, hT36, hI36, hFm36, hG36, (Or.inl ⟨v35p.1, v35p.2.1, ⟨by omega, hof39⟩, ⟨_, _, v35p.2.2.2.1, by omega, pt_wrd (by omega) (by omega), FCg.sub1 hfg40 (by omega)⟩⟩)⟩
        · refine s_lsw (t := 184) kx_92_101 (by decide) 672503392 hs7 (by decide) ?_
          have hwd := wd_of (s := s) (n := n) (p := p) (w := 672503392) (by omega) (by have := hA.2.2.2.2.2.2.2.2 (by omega) (by omega); omega)
          have hcd := cd_of (z := -1) hwd (by omega)
          refine s_aload_n kx_92_184 rfl ?_
          refine s_aload_n kx_92_185 rfl ?_
          refine s_iconst (v := (-1)) kx_92_186 (by decide) ?_
          refine s_callV2 (k := 4) (s1 := 3) (s2 := 0) (as := [(0, (-1)), rf f]) (rest := []) kx_92_187 kp_92_49 (Or.inl rfl) rfl (tk_4 hT) ki_93 kcl_93 rfl rfl (by decide) (f_93 (d := d + 1) (step := (-1)) (k := k) hT hI h50 hf hG hA (by omega) (by omega) (by omega)) (kG (fun v41 T42 M42 hT42 hI42 fr42 hG42 v41p => ?_))
          have hFm42 := hFm.call fr42 rfl
          have tr43 := rg_5_2 hI42
          have tr44 := rg_5_3 hI42
          have hfg46 := FCg.trans0 (FCg.refl (rgf_0_2 hI hf).1) v41p.2.2.2.2
          have hof45 := OFp.trans (OFp.refl (M := M)) v41p.2.2.1.2
          exact s_iret kx_92_190 (Or.inr ⟨kq_92, by omega⟩) ⟨_, _, _, rfl, rfl, hT42, hI42, hFm42, hG42, (Or.inl ⟨v41p.1, v41p.2.1, ⟨by omega, hof45⟩, ⟨_, _, v41p.2.2.2.1, by omega, pt_wrd (by omega) (by omega), FCg.sub1 hfg46 (by omega)⟩⟩)⟩
        · refine s_lsw (t := 191) kx_92_101 (by decide) 777297172 hs7 (by decide) ?_
          have hwd := wd_of (s := s) (n := n) (p := p) (w := 777297172) (by omega) (by have := hA.2.2.2.2.2.2.2.2 (by omega) (by omega); omega)
          have hcd := cd_of (z := -2) hwd (by omega)
          refine s_aload_n kx_92_191 rfl ?_
          refine s_aload_n kx_92_192 rfl ?_
          refine s_bipush (v := (-2)) kx_92_193 (by decide) ?_
          refine s_callV2 (k := 4) (s1 := 3) (s2 := 0) (as := [(0, (-2)), rf f]) (rest := []) kx_92_195 kp_92_49 (Or.inl rfl) rfl (tk_4 hT) ki_93 kcl_93 rfl rfl (by decide) (f_93 (d := d + 1) (step := (-2)) (k := k) hT hI h50 hf hG hA (by omega) (by omega) (by omega)) (kG (fun v47 T48 M48 hT48 hI48 fr48 hG48 v47p => ?_))
          have hFm48 := hFm.call fr48 rfl
          have tr49 := rg_5_2 hI48
          have tr50 := rg_5_3 hI48
          have hfg52 := FCg.trans0 (FCg.refl (rgf_0_2 hI hf).1) v47p.2.2.2.2
          have hof51 := OFp.trans (OFp.refl (M := M)) v47p.2.2.1.2
          exact s_iret kx_92_198 (Or.inr ⟨kq_92, by omega⟩) ⟨_, _, _, rfl, rfl, hT48, hI48, hFm48, hG48, (Or.inl ⟨v47p.1, v47p.2.1, ⟨by omega, hof51⟩, ⟨_, _, v47p.2.2.2.1, by omega, pt_wrd (by omega) (by omega), FCg.sub1 hfg52 (by omega)⟩⟩)⟩
        · refine s_lsw (t := 207) kx_92_101 (by decide) 781325312 hs7 (by decide) ?_
          have hwd := wd_of (s := s) (n := n) (p := p) (w := 781325312) (by omega) (by have := hA.2.2.2.2.2.2.2.2 (by omega) (by omega); omega)
          have hcd := cd_of (z := -4) hwd (by omega)
          refine s_aload_n kx_92_207 rfl ?_
          refine s_aload_n kx_92_208 rfl ?_
          refine s_bipush (v := (-4)) kx_92_209 (by decide) ?_
          refine s_callV2 (k := 4) (s1 := 3) (s2 := 0) (as := [(0, (-4)), rf f]) (rest := []) kx_92_211 kp_92_49 (Or.inl rfl) rfl (tk_4 hT) ki_93 kcl_93 rfl rfl (by decide) (f_93 (d := d + 1) (step := (-4)) (k := k) hT hI h50 hf hG hA (by omega) (by omega) (by omega)) (kG (fun v53 T54 M54 hT54 hI54 fr54 hG54 v53p => ?_))
          have hFm54 := hFm.call fr54 rfl
          have tr55 := rg_5_2 hI54
          have tr56 := rg_5_3 hI54
          have hfg58 := FCg.trans0 (FCg.refl (rgf_0_2 hI hf).1) v53p.2.2.2.2
          have hof57 := OFp.trans (OFp.refl (M := M)) v53p.2.2.1.2
          exact s_iret kx_92_214 (Or.inr ⟨kq_92, by omega⟩) ⟨_, _, _, rfl, rfl, hT54, hI54, hFm54, hG54, (Or.inl ⟨v53p.1, v53p.2.1, ⟨by omega, hof57⟩, ⟨_, _, v53p.2.2.2.1, by omega, pt_wrd (by omega) (by omega), FCg.sub1 hfg58 (by omega)⟩⟩)⟩
        · refine s_lswD (t := 256) kx_92_101 (by decide) (by simpa using hs7) (by decide) ?_
          refine s_aload_n kx_92_256 rfl ?_
          refine r_getR (k := 4) (f := 0) (k2 := 5) kx_92_257 kp_92_12 (tk_4 hT) kf_7_0 (by decide) (rq_4_0 hI) ?_
          refine s_callV2 (k := 5) (s1 := 1) (s2 := 0) (as := []) (rest := []) kx_92_260 kp_92_62 (Or.inl rfl) rfl (tk_5 hT) ki_21 kcl_21 rfl rfl (by decide) (f_21 (d := d + 3) hT hI) (kW (fun v59 M60 hI60 fr60 v59p => ?_))
          have hFm60 := hFm.call fr60 rfl
          have tr61 := (fr60 5 2 rfl)
          have tr62 := (fr60 5 3 rfl)
          have tr63 := (fr60 f 2 (by rcases hf with rfl | rfl | rfl | rfl <;> rfl))
          have tr64 := rg_5_2 hI60
          have tr65 := rg_5_3 hI60
          exact s_iret kx_92_263 (Or.inr ⟨kq_92, by omega⟩) ⟨_, _, _, rfl, rfl, hT, hI60, hFm60, (Gm.fr hG fr60 rfl), (Or.inr ⟨by omega, ⟨by omega, (OFp.fr (OFp.refl (M := M)) fr60 rfl)⟩, SumX.un (LxA.un hA (by omega) v59p.2.2) h0 (pt_none (by omega) (by omega) (fun g => by have := hA.2.2.2.2.2.2.2.2 (by omega) (by omega); omega))⟩)⟩
      · refine s_aload_n kx_92_86 rfl ?_
        refine r_getR (k := 4) (f := 0) (k2 := 5) kx_92_87 kp_92_12 (tk_4 hT) kf_7_0 (by decide) (rq_4_0 hI) ?_
        refine s_callV2 (k := 5) (s1 := 1) (s2 := 0) (as := []) (rest := []) kx_92_90 kp_92_62 (Or.inl rfl) rfl (tk_5 hT) ki_21 kcl_21 rfl rfl (by decide) (f_21 (d := d + 3) hT hI) (kW (fun v66 M67 hI67 fr67 v66p => ?_))
        have hFm67 := hFm.call fr67 rfl
        have tr68 := (fr67 5 2 rfl)
        have tr69 := (fr67 5 3 rfl)
        have tr70 := (fr67 f 2 (by rcases hf with rfl | rfl | rfl | rfl <;> rfl))
        have tr71 := rg_5_2 hI67
        have tr72 := rg_5_3 hI67
        exact s_iret kx_92_93 (Or.inr ⟨kq_92, by omega⟩) ⟨_, _, _, rfl, rfl, hT, hI67, hFm67, (Gm.fr hG fr67 rfl), (Or.inr ⟨by omega, ⟨by omega, (OFp.fr (OFp.refl (M := M)) fr67 rfl)⟩, SumX.un (LxA.un hA (by omega) v66p.2.2) h0 (pt_none (by omega) (by omega) (fun g => absurd g (by omega)))⟩)⟩
    · replace v3p := v3p.resolve_right (by omega)
      have hg40 : owG s n p 40 = 1 := by omega
      refine s_aload_n kx_92_36 rfl ?_
      refine s_bipush (v := 40) kx_92_37 (by decide) ?_
      refine s_iload_n kx_92_39 rfl ?_
      refine s_callV2 (k := 4) (s1 := 3) (s2 := 0) (as := [(0, o), (0, 40)]) (rest := []) kx_92_40 kp_92_52 (Or.inl rfl) rfl (tk_4 hT) ki_101 kcl_101 rfl rfl (by decide) (f_101 (d := d + 1) (c := 40) (o := o) hT hI h50 hA (by omega)) (kW (fun v73 M74 hI74 fr74 v73p => ?_))
      have hFm74 := hFm.call fr74 rfl
      have tr75 := (fr74 f 2 (by rcases hf with rfl | rfl | rfl | rfl <;> rfl))
      have tr76 := rg_5_2 hI74
      have tr77 := rg_5_3 hI74
      refine s_if_eq (t := 73) kx_92_43 (by decide) (fun hc78 => ?_) (fun hc78 => ?_)
      · replace v73p := v73p.resolve_left (by omega)
        have hx79 : SumX M74 (fun g => PtX s n o p g) := (v73p.2.2.mono (fun g z => z.elim (fun a => absurd a.1 (by omega)) (fun a => by rw [a.2.2]; exact pt_x5 a.1 (by omega))))
        refine s_iconst (v := 0) kx_92_73 (by decide) ?_
        exact s_iret kx_92_74 (Or.inr ⟨kq_92, by omega⟩) ⟨_, _, _, rfl, rfl, hT, hI74, hFm74, (Gm.fr hG fr74 rfl), (Or.inr ⟨rfl, ⟨by omega, (OFp.fr (OFp.refl (M := M)) fr74 rfl)⟩, hx79⟩)⟩
      · replace v73p := v73p.resolve_right (by omega)
        refine s_aload_n kx_92_46 rfl ?_
        refine s_aload_n kx_92_47 rfl ?_
        refine s_iload_n kx_92_48 rfl ?_
        refine s_iconst (v := 1) kx_92_49 (by decide) ?_
        refine r_add kx_92_50 ⟨by omega, by omega⟩ ?_
        refine s_callV2 (k := 4) (s1 := 3) (s2 := 0) (as := [(0, (o + 1)), rf f]) (rest := []) kx_92_51 kp_92_56 (Or.inl rfl) rfl (tk_4 hT) ki_89 kcl_89 rfl rfl (by decide) (cC.deep ((hL (by omega)).1 (k := k) hT hI74 ((fr74 5 0 rfl).trans h50) hf (Gm.fr hG fr74 rfl) v73p.2.2.2.2.2 (by omega) (by omega)) (by omega)) (kG (fun v80 T81 M81 hT81 hI81 fr81 hG81 v80p => ?_))
        have hFm81 := hFm74.call fr81 rfl
        have tr82 := rg_5_2 hI81
        have tr83 := rg_5_3 hI81
        have hof84 := OFp.trans (OFp.fr (OFp.refl (M := M)) fr74 rfl) (v80p.elim (fun z => z.2.2.1.2) (fun z => z.2.1.2))
        refine s_if_eq (t := 73) kx_92_54 (by decide) (fun hc85 => ?_) (fun hc85 => ?_)
        · replace v80p := v80p.resolve_left (by omega)
          have hx86 : SumX M81 (fun g => PtX s n o p g) := (v80p.2.2.mono (fun g z => pt_xs hg40 (by omega) z))
          refine s_iconst (v := 0) kx_92_73 (by decide) ?_
          exact s_iret kx_92_74 (Or.inr ⟨kq_92, by omega⟩) ⟨_, _, _, rfl, rfl, hT81, hI81, hFm81, hG81, (Or.inr ⟨rfl, ⟨by omega, hof84⟩, hx86⟩)⟩
        · replace v80p := v80p.resolve_right (by omega)
          obtain ⟨c1, q1, q1l, q1p, q1o, q1g⟩ := v80p.2.2.2
          have hfg87 := FCg.trans0 (FCg.fr (FCg.refl (rgf_0_2 hI hf).1) hf fr74 rfl) q1g
          have q1b := q1l.2.1
          have q1c := q1l.2.2.1
          have q1d := q1l.2.2.2.1
          have q1e := q1l.2.2.2.2.1
          have q1f := q1l.2.2.2.2.2.1
          refine s_aload_n kx_92_57 rfl ?_
          refine r_getR (k := 4) (f := 0) (k2 := 5) kx_92_58 kp_92_12 (tk_4 hT81) kf_7_0 (by decide) (rq_4_0 hI81) ?_
          refine s_bipush (v := 41) kx_92_61 (by decide) ?_
          refine s_callV2 (k := 5) (s1 := 2) (s2 := 0) (as := [(0, 41)]) (rest := []) kx_92_63 kp_92_59 (Or.inl rfl) rfl (tk_5 hT81) ki_24 kcl_24 rfl rfl (by decide) (f_24 (d := d + 1) (c := 41) hT81 hI81 ((fr81 5 0 rfl).trans ((fr74 5 0 rfl).trans h50)) q1l) (kW (fun v88 M89 hI89 fr89 v88p => ?_))
          have hFm89 := hFm81.call fr89 rfl
          have tr90 := (fr89 f 2 (by rcases hf with rfl | rfl | rfl | rfl <;> rfl))
          have tr91 := rg_5_2 hI89
          have tr92 := rg_5_3 hI89
          refine s_if_eq (t := 73) kx_92_66 (by decide) (fun hc93 => ?_) (fun hc93 => ?_)
          · replace v88p := v88p.resolve_left (by omega)
            have hx94 : SumX M89 (fun g => PtX s n o p g) := (SumX.un v88p.2.2.1 (by omega) (pt_xc hg40 (by omega) q1o.1 q1o.2 (by omega)))
            refine s_iconst (v := 0) kx_92_73 (by decide) ?_
            exact s_iret kx_92_74 (Or.inr ⟨kq_92, by omega⟩) ⟨_, _, _, rfl, rfl, hT81, hI89, hFm89, (Gm.fr hG81 fr89 rfl), (Or.inr ⟨rfl, ⟨by omega, (OFp.fr hof84 fr89 rfl)⟩, hx94⟩)⟩
          · replace v88p := v88p.resolve_right (by omega)
            have ho95 : SumC M89 s n p 0 (fun c q => PtOk s n o p c q) _ := ⟨_, v88p.2.2.1, by omega, pt_par hg40 (by omega) q1o.1 (by omega)⟩
            refine s_iconst (v := 1) kx_92_69 (by decide) ?_
            refine s_goto (t := 74) kx_92_70 (by decide) ?_
            exact s_iret kx_92_74 (Or.inr ⟨kq_92, by omega⟩) ⟨_, _, _, rfl, rfl, hT81, hI89, hFm89, (Gm.fr hG81 fr89 rfl), (Or.inl ⟨rfl, ⟨by omega, by omega⟩, ⟨by omega, (OFp.fr hof84 fr89 rfl)⟩, (SumC.o ho95 (FCg.fr hfg87 hf fr89 rfl))⟩)⟩
  · refine s_aload_n kx_92_11 rfl ?_
    refine s_aload_n kx_92_12 rfl ?_
    refine s_aload_n kx_92_13 rfl ?_
    refine r_getR (k := 4) (f := 0) (k2 := 5) kx_92_14 kp_92_12 (tk_4 hT) kf_7_0 (by decide) (rq_4_0 hI) ?_
    refine r_getU (k := 5) (f := 4) kx_92_17 kp_92_46 (tk_5 hT) kf_3_4 (fun _ => rfl) (fun v96 v96e => ?_)
    refine s_callV2 (k := 4) (s1 := 3) (s2 := 0) (as := [(0, v96), rf f]) (rest := []) kx_92_20 kp_92_49 (Or.inl rfl) rfl (tk_4 hT) ki_93 kcl_93 rfl rfl (by decide) (f_93 (d := d + 1) (step := v96) (k := k) hT hI h50 hf hG hA (by omega) (by omega) (by omega)) (kG (fun v97 T98 M98 hT98 hI98 fr98 hG98 v97p => ?_))
    have hFm98 := hFm.call fr98 rfl
    have tr99 := rg_5_2 hI98
    have tr100 := rg_5_3 hI98
    have hfg102 := FCg.trans0 (FCg.refl (rgf_0_2 hI hf).1) v97p.2.2.2.2
    have hof101 := OFp.trans (OFp.refl (M := M)) v97p.2.2.1.2
    exact s_iret kx_92_23 (Or.inr ⟨kq_92, by omega⟩) ⟨_, _, _, rfl, rfl, hT98, hI98, hFm98, hG98, (Or.inl ⟨v97p.1, v97p.2.1, ⟨by omega, hof101⟩, ⟨_, _, v97p.2.2.2.1, by omega, pt_num (by omega) (owV_n (by omega)) (by omega), FCg.sub1 hfg102 (by have := hA.2.2.2.2.2.2.2.2 (by omega) (by omega); omega)⟩⟩)⟩
