/-! the class's readers of sums -/
/-- the other formulas' sizes stay -/
def OFp (f : Nat) (M M1 : cM) : Prop := ∀ g, fF g → g ≠ f → M1 g 2 = M g 2
theorem OFp.refl {f : Nat} {M : cM} : OFp f M M := fun _ _ _ => rfl
theorem OFp.trans {f : Nat} {M M1 M2 : cM} (h : OFp f M M1) (g : OFp f M1 M2) : OFp f M M2 := fun a b c => (g a b c).trans (h a b c)
theorem OFp.fr {S : List (Nat × Nat)} {f : Nat} {M M1 M2 : cM} (h : OFp f M M1) (g : Fr S M1 M2) (hs : (S.all fun q => decide (q.1 < 8) || decide (41 < q.1)) = true) : OFp f M M2 := fun a b c => by
  have hb := b.cases
  rw [g a 2 (nin (by omega) (List.all_eq_true.mpr fun q hq => by have := List.all_eq_true.mp hs q hq; simp at this ⊢; omega) 2)]
  exact h a b c
def SumO (M : cM) (s : Nat → Int) (n p i : Int) (Ok : List Int → Int → Prop) : Prop := ∃ c q, LxA M s n q ∧ p + i + 1 ≤ q ∧ Ok c q
def SumX (M : cM) (Fx : Int → Prop) : Prop := ∃ g, g ≠ 0 ∧ Flt M g ∧ Fx g
theorem SumO.fr {S : List (Nat × Nat)} {M M1 : cM} {s : Nat → Int} {n p i : Int} {Ok : List Int → Int → Prop} (h : SumO M s n p i Ok) (g : Fr S M M1) (hs : (S.all fun q => q.1 != 2 && q.1 != 5) = true) : SumO M1 s n p i Ok := by
  obtain ⟨c, q, h1, h2⟩ := h
  exact ⟨c, q, h1.fr g hs, h2⟩
theorem Flt.fr {S : List (Nat × Nat)} {M M1 : cM} {f : Int} (h : Flt M f) (g : Fr S M M1) (hs : (S.all fun q => q.1 != 2 && q.1 != 5) = true) : Flt M1 f := by
  have h5 : ∀ f, M1 5 f = M 5 f := fun f => g 5 f (nin (by decide) (List.all_eq_true.mpr fun q hq => by have := List.all_eq_true.mp hs q hq; simp at this ⊢; omega) f)
  unfold Flt
  rw [h5, h5]
  exact h
theorem SumX.fr {S : List (Nat × Nat)} {M M1 : cM} {Fx : Int → Prop} (h : SumX M Fx) (g : Fr S M M1) (hs : (S.all fun q => q.1 != 2 && q.1 != 5) = true) : SumX M1 Fx := by
  obtain ⟨f, h1, h2, h3⟩ := h
  exact ⟨f, h1, h2.fr g hs, h3⟩
theorem SumX.mono {M : cM} {Fx Gx : Int → Prop} (h : SumX M Fx) (g : ∀ f, Fx f → Gx f) : SumX M Gx := by
  obtain ⟨f, h1, h2, h3⟩ := h
  exact ⟨f, h1, h2, g f h3⟩
theorem SumX.un {M : cM} {Fx : Int → Prop} {s : Nat → Int} {n p : Int} (h : Flt M (owU s n p)) (h0 : 0 ≤ p) (g : Fx (owU s n p)) : SumX M Fx := ⟨_, by have := owU_pos (s := s) (n := n) h0; omega, h, g⟩
/-- what opens tells -/
def OpX (s : Nat → Int) (n p c o g : Int) : Prop := (owG s n p c = 0 ∧ g = owU s n p) ∨ (owG s n p c = 1 ∧ 7 ≤ o ∧ g = 50000 + owB s n p)
section AOS
variable {s : Nat → Int} {n p : Int}
theorem ao_42 (h : owG s n p 42 = 1) : owAo s n p = 12 := by
  unfold owAo
  rw [if_neg (by rw [owG_ne h (by decide)]; decide), if_neg (by rw [owG_ne h (by decide)]; decide), if_pos h]
theorem ao_47 (h : owG s n p 47 = 1) : owAo s n p = 13 := by
  unfold owAo
  rw [if_neg (by rw [owG_ne h (by decide)]; decide), if_neg (by rw [owG_ne h (by decide)]; decide), if_neg (by rw [owG_ne h (by decide)]; decide), if_pos h]
theorem ao_37 (h : owG s n p 37 = 1) : owAo s n p = 14 := by
  unfold owAo
  rw [if_neg (by rw [owG_ne h (by decide)]; decide), if_neg (by rw [owG_ne h (by decide)]; decide), if_neg (by rw [owG_ne h (by decide)]; decide), if_neg (by rw [owG_ne h (by decide)]; decide), if_pos h]
theorem ao_43 (h : owG s n p 43 = 1) : owAo s n p = 10 := by
  unfold owAo
  rw [if_pos h]
theorem ao_45 (h : owG s n p 45 = 1) : owAo s n p = 11 := by
  unfold owAo
  rw [if_neg (by rw [owG_ne h (by decide)]; decide), if_pos h]
theorem ao_n6 (h1 : owG s n p 42 = 0) (h2 : owG s n p 47 = 0) (h3 : owG s n p 37 = 0) : ¬ 12 ≤ owAo s n p := by
  unfold owAo
  (repeat' split) <;> omega
theorem ao_n5 (h : ¬ 12 ≤ owAo s n p) (h1 : owG s n p 43 = 0) (h2 : owG s n p 45 = 0) : owAo s n p = 0 := by
  unfold owAo at h ⊢
  (repeat' split) <;> (repeat' split at h) <;> omega
theorem co_60 (h : owG s n p 60 = 1) : owCo s n p = 17 := by unfold owCo; rw [if_pos h]
theorem co_62 (h : owG s n p 62 = 1) : owCo s n p = 18 := by
  unfold owCo
  rw [if_neg (by rw [owG_ne h (by decide)]; decide), if_pos h]
theorem co_61 (h : owG s n p 61 = 1) : owCo s n p = 19 := by
  unfold owCo
  rw [if_neg (by rw [owG_ne h (by decide)]; decide), if_neg (by rw [owG_ne h (by decide)]; decide), if_pos h]
theorem co_n (h1 : owG s n p 60 = 0) (h2 : owG s n p 62 = 0) (h3 : owG s n p 61 = 0) : owCo s n p = 0 := by
  unfold owCo
  rw [if_neg (by omega), if_neg (by omega), if_neg (by omega)]
theorem bo_and (h : owW s n p 48365568 = 1) : owBo s n p = 20 := by unfold owBo; rw [if_pos h]
theorem bo_or (h : owW s n p 522190848 = 1) : owBo s n p = 21 := by
  unfold owBo
  rw [if_neg (by rw [owW_ne h (by decide)]; decide), if_pos h]
theorem bo_na (h : owW s n p 48365568 = 0) : owBo s n p ≠ 20 := by
  unfold owBo
  (repeat' split) <;> omega
theorem bo_no (h : owBo s n p ≠ 20) (h1 : owW s n p 522190848 = 0) : owBo s n p = 0 := by
  unfold owBo at h ⊢
  (repeat' split) <;> (repeat' split at h) <;> omega
/-- the words of a part, by their number -/
theorem wd_of {w : Int} (h1 : owK s n p = 1) (h2 : owV s n p = w) : owW s n p w = 1 := if_pos ⟨h1, h2⟩
theorem cd_of {w z : Int} (h : owW s n p w = 1) (hz : (w = 672503392 ∧ z = -1) ∨ (w = 777297172 ∧ z = -2) ∨ (w = 659111367 ∧ z = -3) ∨ (w = 781325312 ∧ z = -4) ∨ (w = 113741152 ∧ z = -5) ∨ (w = 527892480 ∧ z = -6)) : owCd s n p = z := by
  unfold owCd
  rcases hz with ⟨rfl, rfl⟩ | ⟨rfl, rfl⟩ | ⟨rfl, rfl⟩ | ⟨rfl, rfl⟩ | ⟨rfl, rfl⟩ | ⟨rfl, rfl⟩
  · rw [if_pos h]
  · rw [if_neg (by rw [owW_ne h (by decide)]; decide), if_pos h]
  · rw [if_neg (by rw [owW_ne h (by decide)]; decide), if_neg (by rw [owW_ne h (by decide)]; decide), if_pos h]
  · rw [if_neg (by rw [owW_ne h (by decide)]; decide), if_neg (by rw [owW_ne h (by decide)]; decide), if_neg (by rw [owW_ne h (by decide)]; decide), if_pos h]
  · rw [if_neg (by rw [owW_ne h (by decide)]; decide), if_neg (by rw [owW_ne h (by decide)]; decide), if_neg (by rw [owW_ne h (by decide)]; decide), if_neg (by rw [owW_ne h (by decide)]; decide), if_pos h]
  · rw [if_neg (by rw [owW_ne h (by decide)]; decide), if_neg (by rw [owW_ne h (by decide)]; decide), if_neg (by rw [owW_ne h (by decide)]; decide), if_neg (by rw [owW_ne h (by decide)]; decide), if_neg (by rw [owW_ne h (by decide)]; decide), if_pos h]
theorem mx_of {w z : Int} (h : owW s n p w = 1) (hz : (w = 446103552 ∧ z = 15) ∨ (w = 438042624 ∧ z = 16) ∨ (w = 308281344 ∧ z = 23)) : owMx s n p = z := by
  unfold owMx
  rcases hz with ⟨rfl, rfl⟩ | ⟨rfl, rfl⟩ | ⟨rfl, rfl⟩
  · rw [if_pos h]
  · rw [if_neg (by rw [owW_ne h (by decide)]; decide), if_pos h]
  · rw [if_neg (by rw [owW_ne h (by decide)]; decide), if_neg (by rw [owW_ne h (by decide)]; decide), if_pos h]
theorem pt_none (h : owK s n p ≠ 3) (hg : owG s n p 40 = 0) (hv : owK s n p = 1 → owV s n p ≠ 672503392 ∧ owV s n p ≠ 777297172 ∧ owV s n p ≠ 659111367 ∧ owV s n p ≠ 781325312 ∧ owV s n p ≠ 113741152 ∧ owV s n p ≠ 527892480 ∧ owV s n p ≠ 446103552 ∧ owV s n p ≠ 438042624 ∧ owV s n p ≠ 308281344) {o : Int} : PtX s n o p (owU s n p) := by
  have hw : ∀ w, (w = 672503392 ∨ w = 777297172 ∨ w = 659111367 ∨ w = 781325312 ∨ w = 113741152 ∨ w = 527892480 ∨ w = 446103552 ∨ w = 438042624 ∨ w = 308281344) → ¬ owW s n p w = 1 := fun w hw g => by
    have g1 := owW1 g
    have := hv g1.1
    omega
  refine pt_x0 hg ?_ h ?_
  · unfold owMx
    rw [if_neg (hw _ (by omega)), if_neg (hw _ (by omega)), if_neg (hw _ (by omega))]
  · unfold owCd
    rw [if_neg (hw _ (by omega)), if_neg (hw _ (by omega)), if_neg (hw _ (by omega)), if_neg (hw _ (by omega)), if_neg (hw _ (by omega)), if_neg (hw _ (by omega))]
end AOS
theorem f_10 {xs : Nat → Int} {Ln d : Nat} {T : List cK} {M : cM} (hT : TT T) (hI : Rng M) {f : Nat} (hf : fF f) (hG : Gm T M) {step : Int} (p0 : M f 2 + 1 ≤ 1600) : cC k_P xs Ln (d + 2) 10 [rf f, (0, step)] (T, M) (qGV T M fS_10_m (fun M1 => M1 f 2 = M f 2 + 1 ∧ OFp f M M1)) := by
  show cP k_P xs Ln (d + 2) 10 0 [(0, rf f), (1, (0, step))] [] (T, M) _
  have tail : ∀ (T1 : List cK) (M1 : cM), TT T1 → Rng M1 → Fr fS_10_m M M1 → Gm T1 M1 → M1 f 2 = M f 2 → OFp f M M1 → (∀ s n : Nat, M1 f 1 = ((s : Nat) : Int) → T1[s]? = some (.inl (0, n)) → M f 2 < n) → cP k_P xs Ln (d + 2) 10 32 [(0, rf f), (1, (0, step))] [] (T1, M1) (qGV T M fS_10_m (fun M1 => M1 f 2 = M f 2 + 1 ∧ OFp f M M1)) := by
    intro T1 M1 hT1 hI1 hF1 hG1 e2 hof hlt
    obtain ⟨n, h1, h2, h3⟩ := hG1
    obtain ⟨s, a1, a2, a3, a4, a5, a6⟩ := h1 f hf
    have hlt := hlt s (n f) a1 a2
    have hfc := hf.cases
    refine s_aload_n kx_10_32 rfl ?_
    refine r_getR (k := f) (f := 1) (k2 := s) kx_10_33 kp_10_15 (tkf_0 hT1 hf) kf_1_1 (by decide) a1 ?_
    refine s_aload_n kx_10_36 rfl ?_
    refine r_getI (k := f) (f := 2) kx_10_37 kp_10_18 (tkf_0 hT1 hf) kf_1_2 (fun _ => rfl) (rgf_0_2 hI1 hf) (fun v ve va vb => ?_)
    refine s_iload_n kx_10_40 rfl ?_
    have hru : r_ok s v.toNat step := by
      rcases a6 with e | e
      · subst e
        rcases hf with rfl | rfl | rfl | rfl
        · exact ru_21
        · exact ru_24
        · exact ru_38
        · exact ru_41
      · exact ru_far e
    refine r_ast (k := s) kx_10_41 a2 ⟨by omega, by omega⟩ hI1 hru (fun M2 hI2 u2 => ?_)
    have hin : c_in fS_10_m s v.toNat = true := by
      rcases a6 with e | e
      · subst e
        rcases hf with rfl | rfl | rfl | rfl <;> rfl
      · exact c_in_far e
    have hF2 := hF1.up u2 hin
    refine s_aload_n kx_10_42 rfl ?_
    refine s_dup kx_10_43 rfl ?_
    refine r_getK (k := f) (f := 2) kx_10_44 kp_10_18 (tkf_0 hT1 hf) kf_1_2 (fun _ => rfl) ((u2.2 f 2 (by omega)).trans ve) ?_
    refine s_iconst (v := 1) kx_10_47 (by decide) ?_
    refine r_add kx_10_48 ⟨by omega, by omega⟩ ?_
    refine r_put (k := f) (f := 2) kx_10_49 kp_10_18 (tkf_0 hT1 hf) kf_1_2 rfl (by decide) (by decide) hI2 (ruf_0_2 hf (by omega) (by omega)) (fun M3 hI3 u3 => ?_)
    have hF3 := hF2.up u3 (by rcases hf with rfl | rfl | rfl | rfl <;> rfl)
    refine s_vret kx_10_52 kq_10 ⟨T1, M3, rfl, rfl, hT1, hI3, hF3, ⟨n, fun g hg => ?_, h2, h3⟩, ?_⟩
    · obtain ⟨s', b1, b2, b3, b4, b5, b6⟩ := h1 g hg
      have hgc := hg.cases
      refine ⟨s', ?_, b2, b3, b4, ?_, b6⟩
      · rw [u3.2 g 1 (by omega), u2.2 g 1 (by omega)]
        exact b1
      · by_cases e : g = f
        · subst e
          rw [u3.1]
          omega
        · rw [u3.2 g 2 (by omega), u2.2 g 2 (by omega)]
          exact b5
    · refine ⟨?_, fun g hg hne => ?_⟩
      · show M3 f 2 = M f 2 + 1
        rw [u3.1]
        omega
      · have hgc := hg.cases
        rw [u3.2 g 2 (by omega), u2.2 g 2 (by omega)]
        exact hof g hg hne
  have hG0 := hG
  obtain ⟨n, h1, h2, h3⟩ := hG
  obtain ⟨s, a1, a2, a3, a4, a5, a6⟩ := h1 f hf
  refine s_aload_n kx_10_0 rfl ?_
  refine r_getI (k := f) (f := 2) kx_10_1 kp_10_18 (tkf_0 hT hf) kf_1_2 (fun _ => rfl) (rgf_0_2 hI hf) (fun v ve va vb => ?_)
  refine s_aload_n kx_10_4 rfl ?_
  refine r_getR (k := f) (f := 1) (k2 := s) kx_10_5 kp_10_15 (tkf_0 hT hf) kf_1_1 (by decide) a1 ?_
  refine r_alen (k := s) kx_10_8 a2 ⟨by decide, by omega⟩ ?_
  refine s_icmp_lt (t := 32) kx_10_9 (by decide) (fun hlt => ?_) (fun hge => ?_)
  · refine tail T M hT hI Fr.refl hG0 rfl (fun _ _ _ => rfl) (fun s1 n1 b1 b2 => ?_)
    have : s1 = s := by
      have := b1.symm.trans a1
      omega
    subst this
    rw [a2] at b2
    have e := Option.some.inj b2
    have e2 : n f = n1 := by injection e with e; injection e
    omega
  · have hv : v = (n f : Int) := by omega
    refine s_aload_n kx_10_12 rfl ?_
    refine s_aload_n kx_10_13 rfl ?_
    refine r_getR (k := f) (f := 1) (k2 := s) kx_10_14 kp_10_15 (tkf_0 hT hf) kf_1_1 (by decide) a1 ?_
    refine s_aload_n kx_10_17 rfl ?_
    refine r_getK (k := f) (f := 2) kx_10_18 kp_10_18 (tkf_0 hT hf) kf_1_2 (fun _ => rfl) ve ?_
    refine s_aload_n kx_10_21 rfl ?_
    refine r_getK (k := f) (f := 2) kx_10_22 kp_10_18 (tkf_0 hT hf) kf_1_2 (fun _ => rfl) ve ?_
    refine r_add kx_10_25 ⟨by omega, by omega⟩ ?_
    refine s_callS2 (s1 := 2) (s2 := 1) (as := [(0, v + v), rf s]) (rest := [rf f]) kx_10_26 kp_10_22 rfl kcl_302 rfl rfl (by decide) (m_302 (d := d) hT hI a2 (by omega) ⟨by omega, by omega⟩ (by omega)) ?_
    rintro r1 h1' ⟨M1, rfl, rfl, hI1, hM1⟩
    show cP k_P xs Ln (d + 2) 10 29 [(0, rf f), (1, (0, step))] [rf T.length, rf f] _ _
    have hl := hT.len
    have hfc := hf.cases
    have hT1 := hT.snoc (.inl (0, (v + v).toNat))
    refine r_put (k := f) (f := 1) kx_10_29 kp_10_15 (tkf_0 hT1 hf) kf_1_1 rfl (by decide) (by decide) hI1 (ruf_0_1 hf) (fun M2 hI2 u2 => ?_)
    have hF2 : Fr fS_10_m M M2 := by
      have g1 : Fr fS_10_m M M1 := by
        intro a b g
        refine hM1 a b ?_
        rintro rfl
        rw [c_in_far hl] at g
        cases g
      exact g1.up u2 (by rcases hf with rfl | rfl | rfl | rfl <;> rfl)
    have hlast : (T ++ [(.inl (0, (v + v).toNat) : cK)])[T.length]? = some (.inl (0, (v + v).toNat)) := by
      rw [List.getElem?_append_right (Nat.le_refl _), Nat.sub_self]
      rfl
    refine tail _ M2 hT1 hI2 hF2 ?_ ?_ (fun g hg hne => ?_) ?_
    · refine ⟨fun g => if g = f then 2 * n f else n g, fun g hg => ?_, ?_, ?_⟩
      · obtain ⟨s', b1, b2, b3, b4, b5, b6⟩ := h1 g hg
        have hgc := hg.cases
        dsimp only
        by_cases e : g = f
        · subst e
          refine ⟨T.length, u2.1, ?_, ?_, ?_, ?_, Or.inr hl⟩
          · rw [hlast, if_pos rfl, show (v + v).toNat = 2 * n g by omega]
          · rw [if_pos rfl]
            omega
          · rw [if_pos rfl]
            omega
          · rw [if_pos rfl, u2.2 g 2 (by omega), hM1 g 2 (by omega)]
            omega
        · refine ⟨s', ?_, ?_, ?_, ?_, ?_, b6⟩
          · rw [u2.2 g 1 (by omega), hM1 g 1 (by omega)]
            exact b1
          · rw [if_neg e, List.getElem?_append_left (List.getElem?_eq_some_iff.mp b2).1]
            exact b2
          · rw [if_neg e]
            exact b3
          · rw [if_neg e]
            exact b4
          · rw [if_neg e, u2.2 g 2 (by omega), hM1 g 2 (by omega)]
            exact b5
      · dsimp only
        rw [List.length_append, List.length_singleton]
        rcases hf with rfl | rfl | rfl | rfl <;> simp <;> omega
      · have ec : c_sz k_P (T ++ [(.inl (0, (v + v).toNat) : cK)]) = c_sz k_P T + (v + v).toNat := c_sz_app
        dsimp only
        rw [ec]
        rcases hf with rfl | rfl | rfl | rfl <;> simp <;> omega
    · rw [u2.2 f 2 (by omega), hM1 f 2 (by omega)]
    · have hgc := hg.cases
      rw [u2.2 g 2 (by omega), hM1 g 2 (by omega)]
    · intro s1 n1 b1 b2
      have : s1 = T.length := by
        have := b1.symm.trans u2.1
        omega
      subst this
      rw [hlast] at b2
      have e := Option.some.inj b2
      have e2 : (v + v).toNat = n1 := by injection e with e; injection e
      omega
def gS_101_m : List (Nat × Nat) := [(5, 2), (5, 3), (5, 4), (5, 5), (5, 6), (5, 7)]
theorem f_101 {xs : Nat → Int} {Ln d : Nat} {T : List cK} {M : cM} (hT : TT T) (hI : Rng M) (h50 : M 5 0 = ((2 : Nat) : Int)) {c o : Int} {s : Nat → Int} {n p : Int} (hA : LxA M s n p) (p0 : 0 ≤ o ∧ o ≤ 7) : cC k_P xs Ln (d + 3) 101 [rf 4, (0, c), (0, o)] (T, M) (qW T M gS_101_m 0 (fun v M1 => (v = 1 ∧ o < 7 ∧ M 5 3 = 4 ∧ (M 5 2 ≤ M1 5 2 ∧ (M1 5 3 = 0 ∨ M1 5 3 = 5 ∨ M 5 2 + 1 ≤ M1 5 2) ∧ p + 1 ≤ owE s n p) ∧ owG s n p c = 1 ∧ LxA M1 s n (owE s n p)) ∨ (v = 0 ∧ M1 5 2 = M 5 2 ∧ SumX M1 (OpX s n p c o)))) := by
  show cP k_P xs Ln (d + 3) 101 0 [(0, rf 4), (1, (0, c)), (2, (0, o))] [] (T, M) _
  have hFm : Fr gS_101_m M M := Fr.refl
  have h51 := hA.2.1
  have h0 := hA.2.2.1
  have hpn := hA.2.2.2.1
  have h53 := hA.2.2.2.2.1
  have h55 := hA.2.2.2.2.2.1
  have h51r := rg_5_1 hI
  have h52 := rg_5_2 hI
  have h53r := rg_5_3 hI
  refine s_aload_n kx_101_0 rfl ?_
  refine r_getR (k := 4) (f := 0) (k2 := 5) kx_101_1 kp_101_12 (tk_4 hT) kf_7_0 (by decide) (rq_4_0 hI) ?_
  refine s_iload_n kx_101_4 rfl ?_
  refine s_callV2 (k := 5) (s1 := 2) (s2 := 0) (as := [(0, c)]) (rest := []) kx_101_5 kp_101_22 (Or.inl rfl) rfl (tk_5 hT) ki_23 kcl_23 rfl rfl (by decide) (f_23 (d := d + 2) (c := c) hT hI hA) (kF (fun v1 v1p => ?_))
  refine s_if_ne (t := 19) kx_101_8 (by decide) (fun hc2 => ?_) (fun hc2 => ?_)
  · replace v1p := v1p.resolve_right (by omega)
    refine s_iload_n kx_101_19 rfl ?_
    refine s_bipush (v := 7) kx_101_20 (by decide) ?_
    refine s_icmp_lt (t := 41) kx_101_22 (by decide) (fun hc3 => ?_) (fun hc3 => ?_)
    · refine s_aload_n kx_101_41 rfl ?_
      refine r_getR (k := 4) (f := 0) (k2 := 5) kx_101_42 kp_101_12 (tk_4 hT) kf_7_0 (by decide) (rq_4_0 hI) ?_
      refine s_callV2 (k := 5) (s1 := 1) (s2 := 0) (as := []) (rest := []) kx_101_45 kp_101_28 (Or.inl rfl) rfl (tk_5 hT) ki_26 kcl_26 rfl rfl (by decide) (f_26 (d := d) hT hI h50 (LxA.nx hA (by omega) (by omega))) (kV (fun M5 hI5 fr5 v4p => ?_))
      have hFm5 := hFm.call fr5 rfl
      have la6b := (v4p.1).2.1
      have la6c := (v4p.1).2.2.1
      have la6d := (v4p.1).2.2.2.1
      have la6e := (v4p.1).2.2.2.2.1
      have la6f := (v4p.1).2.2.2.2.2.1
      have la6z := owE_gt (s := s) (hA).2.2.2.1 (by omega)
      refine s_iconst (v := 1) kx_101_48 (by decide) ?_
      exact s_iret kx_101_49 (Or.inr ⟨kq_101, by omega⟩) ⟨_, _, rfl, rfl, hI5, hFm5, (Or.inl ⟨rfl, by omega, by omega, ⟨by omega, by omega, by omega⟩, by omega, v4p.1⟩)⟩
    · refine s_aload_n kx_101_25 rfl ?_
      refine r_getR (k := 4) (f := 0) (k2 := 5) kx_101_26 kp_101_12 (tk_4 hT) kf_7_0 (by decide) (rq_4_0 hI) ?_
      refine s_iconst (v := 5) kx_101_29 (by decide) ?_
      refine s_aload_n kx_101_30 rfl ?_
      refine r_getR (k := 4) (f := 0) (k2 := 5) kx_101_31 kp_101_12 (tk_4 hT) kf_7_0 (by decide) (rq_4_0 hI) ?_
      refine r_getI (k := 5) (f := 5) kx_101_34 kp_101_96 (tk_5 hT) kf_3_5 (fun _ => rfl) (rg_5_5 hI) (fun v7 v7e v7a v7b => ?_)
      have hk8 : M 5 5 = v7 := v7e
      refine s_callV2 (k := 5) (s1 := 3) (s2 := 0) (as := [(0, v7), (0, 5)]) (rest := []) kx_101_37 kp_101_99 (Or.inl rfl) rfl (tk_5 hT) ki_20 kcl_20 rfl rfl (by decide) (f_20 (d := d + 2) (kind := 5) (place := v7) hT hI) (kW (fun v9 M10 hI10 fr10 v9p => ?_))
      have hFm10 := hFm.call fr10 rfl
      have tr11 := (fr10 5 2 rfl)
      have tr12 := (fr10 5 3 rfl)
      exact s_iret kx_101_40 (Or.inr ⟨kq_101, by omega⟩) ⟨_, _, rfl, rfl, hI10, hFm10, (Or.inr ⟨by omega, by omega, (fun z => ⟨_, z.1, z.2, Or.inr ⟨by omega, by omega, rfl⟩⟩) (LxA.fl hA (by omega) (by omega) (by omega) v9p.2.2 (by decide) (show 50000 + owB s n p = 10000 * 5 + owB s n p by omega))⟩)⟩
  · replace v1p := v1p.resolve_left (by omega)
    refine s_aload_n kx_101_11 rfl ?_
    refine r_getR (k := 4) (f := 0) (k2 := 5) kx_101_12 kp_101_12 (tk_4 hT) kf_7_0 (by decide) (rq_4_0 hI) ?_
    refine s_callV2 (k := 5) (s1 := 1) (s2 := 0) (as := []) (rest := []) kx_101_15 kp_101_62 (Or.inl rfl) rfl (tk_5 hT) ki_21 kcl_21 rfl rfl (by decide) (f_21 (d := d + 1) hT hI) (kW (fun v13 M14 hI14 fr14 v13p => ?_))
    have hFm14 := hFm.call fr14 rfl
    have tr15 := (fr14 5 2 rfl)
    have tr16 := (fr14 5 3 rfl)
    exact s_iret kx_101_18 (Or.inr ⟨kq_101, by omega⟩) ⟨_, _, rfl, rfl, hI14, hFm14, (Or.inr ⟨by omega, by omega, SumX.un (LxA.un hA (by omega) v13p.2.2) h0 (Or.inl ⟨by omega, rfl⟩)⟩)⟩
theorem f_91 {xs : Nat → Int} {Ln d : Nat} {T : List cK} {M : cM} (hT : TT T) (hI : Rng M) {s : Nat → Int} {n p : Int} (hA : LxA M s n p) : cC k_P xs Ln (d + 1) 91 [rf 4] (T, M) (qF T M 0 (fun v => (12 ≤ owAo s n p ∧ v = 3 - owAo s n p ∧ M 5 3 = 4) ∨ (¬ 12 ≤ owAo s n p ∧ v = 0))) := by
  show cP k_P xs Ln (d + 1) 91 0 [(0, rf 4)] [] (T, M) _
  have h51 := hA.2.1
  have h0 := hA.2.2.1
  have hpn := hA.2.2.2.1
  have h53 := hA.2.2.2.2.1
  have h55 := hA.2.2.2.2.2.1
  have h51r := rg_5_1 hI
  have h52 := rg_5_2 hI
  have h53r := rg_5_3 hI
  refine s_aload_n kx_91_0 rfl ?_
  refine r_getR (k := 4) (f := 0) (k2 := 5) kx_91_1 kp_91_12 (tk_4 hT) kf_7_0 (by decide) (rq_4_0 hI) ?_
  refine s_bipush (v := 42) kx_91_4 (by decide) ?_
  refine s_callV2 (k := 5) (s1 := 2) (s2 := 0) (as := [(0, 42)]) (rest := []) kx_91_6 kp_91_22 (Or.inl rfl) rfl (tk_5 hT) ki_23 kcl_23 rfl rfl (by decide) (f_23 (d := d) (c := 42) hT hI hA) (kF (fun v1 v1p => ?_))
  refine s_if_eq (t := 15) kx_91_9 (by decide) (fun hc2 => ?_) (fun hc2 => ?_)
  · replace v1p := v1p.resolve_left (by omega)
    refine s_aload_n kx_91_15 rfl ?_
    refine r_getR (k := 4) (f := 0) (k2 := 5) kx_91_16 kp_91_12 (tk_4 hT) kf_7_0 (by decide) (rq_4_0 hI) ?_
    refine s_bipush (v := 47) kx_91_19 (by decide) ?_
    refine s_callV2 (k := 5) (s1 := 2) (s2 := 0) (as := [(0, 47)]) (rest := []) kx_91_21 kp_91_22 (Or.inl rfl) rfl (tk_5 hT) ki_23 kcl_23 rfl rfl (by decide) (f_23 (d := d) (c := 47) hT hI hA) (kF (fun v3 v3p => ?_))
    refine s_if_eq (t := 30) kx_91_24 (by decide) (fun hc4 => ?_) (fun hc4 => ?_)
    · replace v3p := v3p.resolve_left (by omega)
      refine s_aload_n kx_91_30 rfl ?_
      refine r_getR (k := 4) (f := 0) (k2 := 5) kx_91_31 kp_91_12 (tk_4 hT) kf_7_0 (by decide) (rq_4_0 hI) ?_
      refine s_bipush (v := 37) kx_91_34 (by decide) ?_
      refine s_callV2 (k := 5) (s1 := 2) (s2 := 0) (as := [(0, 37)]) (rest := []) kx_91_36 kp_91_22 (Or.inl rfl) rfl (tk_5 hT) ki_23 kcl_23 rfl rfl (by decide) (f_23 (d := d) (c := 37) hT hI hA) (kF (fun v5 v5p => ?_))
      refine s_if_eq (t := 47) kx_91_39 (by decide) (fun hc6 => ?_) (fun hc6 => ?_)
      · replace v5p := v5p.resolve_left (by omega)
        refine s_iconst (v := 0) kx_91_47 (by decide) ?_
        exact s_iret kx_91_48 (Or.inl kq_91) ⟨_, rfl, rfl, (Or.inr ⟨ao_n6 (by omega) (by omega) (by omega), rfl⟩)⟩
      · replace v5p := v5p.resolve_right (by omega)
        refine s_bipush (v := (-11)) kx_91_42 (by decide) ?_
        refine s_goto (t := 48) kx_91_44 (by decide) ?_
        exact s_iret kx_91_48 (Or.inl kq_91) ⟨_, rfl, rfl, (Or.inl ⟨by have := ao_37 (s := s) (n := n) (p := p) (by omega); omega, by have := ao_37 (s := s) (n := n) (p := p) (by omega); omega, by omega⟩)⟩
    · replace v3p := v3p.resolve_right (by omega)
      refine s_bipush (v := (-10)) kx_91_27 (by decide) ?_
      exact s_iret kx_91_29 (Or.inl kq_91) ⟨_, rfl, rfl, (Or.inl ⟨by have := ao_47 (s := s) (n := n) (p := p) (by omega); omega, by have := ao_47 (s := s) (n := n) (p := p) (by omega); omega, by omega⟩)⟩
  · replace v1p := v1p.resolve_right (by omega)
    refine s_bipush (v := (-9)) kx_91_12 (by decide) ?_
    exact s_iret kx_91_14 (Or.inl kq_91) ⟨_, rfl, rfl, (Or.inl ⟨by have := ao_42 (s := s) (n := n) (p := p) (by omega); omega, by have := ao_42 (s := s) (n := n) (p := p) (by omega); omega, by omega⟩)⟩
abbrev LfS (xs : Nat → Int) (Ln D : Nat) (o : Int) : Prop := ∀ {T : List cK} {M : cM} {f : Nat} {k : Int} {s : Nat → Int} {n p : Int}, TT T → Rng M → M 5 0 = ((2 : Nat) : Int) → fF f → Gm T M → LxA M s n p → 0 ≤ k → (M f 2 + k ≤ M 5 2 ∧ (M 5 3 = 0 ∨ M 5 3 = 5 ∨ M f 2 + k + 1 ≤ M 5 2)) → cC k_P xs Ln D 89 [rf 4, rf f, (0, o)] (T, M) (qG T M fS_par 0 (fun v M1 => (v = 1 ∧ (M1 f 2 + k ≤ M1 5 2 ∧ (M1 5 3 = 0 ∨ M1 5 3 = 5 ∨ M1 f 2 + k + 1 ≤ M1 5 2)) ∧ (M f 2 + 1 ≤ M1 f 2 ∧ OFp f M M1) ∧ SumO M1 s n p 0 (fun c q => LvOk s n 5 o p c q ∧ owAo s n q = 0)) ∨ (v = 0 ∧ (M1 f 2 + k ≤ M1 5 2 ∧ OFp f M M1) ∧ SumX M1 (fun g => LvX s n 5 o p g))))
abbrev LfT (xs : Nat → Int) (Ln D : Nat) (o : Int) : Prop := ∀ {T : List cK} {M : cM} {f : Nat} {k : Int} {s : Nat → Int} {n p : Int}, TT T → Rng M → M 5 0 = ((2 : Nat) : Int) → fF f → Gm T M → LxA M s n p → 0 ≤ k → (M f 2 + k ≤ M 5 2 ∧ (M 5 3 = 0 ∨ M 5 3 = 5 ∨ M f 2 + k + 1 ≤ M 5 2)) → cC k_P xs Ln D 96 [rf 4, rf f, (0, o)] (T, M) (qG T M fS_par 0 (fun v M1 => (v = 1 ∧ (M1 f 2 + k ≤ M1 5 2 ∧ (M1 5 3 = 0 ∨ M1 5 3 = 5 ∨ M1 f 2 + k + 1 ≤ M1 5 2)) ∧ (M f 2 + 1 ≤ M1 f 2 ∧ OFp f M M1) ∧ SumO M1 s n p 0 (fun c q => TlOk s n 1 o p c q ∧ owBo s n q = 0)) ∨ (v = 0 ∧ (M1 f 2 + k ≤ M1 5 2 ∧ OFp f M M1) ∧ SumX M1 (fun g => TlX s n 1 o p g))))
abbrev LfF (xs : Nat → Int) (Ln D : Nat) (o : Int) : Prop := ∀ {T : List cK} {M : cM} {f : Nat} {k : Int} {s : Nat → Int} {n p : Int}, TT T → Rng M → M 5 0 = ((2 : Nat) : Int) → fF f → Gm T M → LxA M s n p → 0 ≤ k → (M f 2 + k ≤ M 5 2 ∧ (M 5 3 = 0 ∨ M 5 3 = 5 ∨ M f 2 + k + 1 ≤ M 5 2)) → cC k_P xs Ln D 98 [rf 4, rf f, (0, o)] (T, M) (qG T M fS_par 0 (fun v M1 => (v = 1 ∧ (M1 f 2 + k ≤ M1 5 2 ∧ (M1 5 3 = 0 ∨ M1 5 3 = 5 ∨ M1 f 2 + k + 1 ≤ M1 5 2)) ∧ (M f 2 + 1 ≤ M1 f 2 ∧ OFp f M M1) ∧ SumO M1 s n p 0 (fun c q => TlOk s n 3 o p c q)) ∨ (v = 0 ∧ (M1 f 2 + k ≤ M1 5 2 ∧ OFp f M M1) ∧ SumX M1 (fun g => TlX s n 3 o p g))))
def Lf (xs : Nat → Int) (Ln D : Nat) (o : Int) : Prop := LfS xs Ln D o ∧ LfT xs Ln D o ∧ LfF xs Ln D o
theorem Lf.deep {xs : Nat → Int} {Ln D E : Nat} {o : Int} (h : Lf xs Ln D o) (hd : D ≤ E) : Lf xs Ln E o :=
  ⟨fun a b c e f l g i => (h.1 a b c e f l g i).deep hd, fun a b c e f l g i => (h.2.1 a b c e f l g i).deep hd, fun a b c e f l g i => (h.2.2 a b c e f l g i).deep hd⟩
theorem f_93 {xs : Nat → Int} {Ln d : Nat} {T : List cK} {M : cM} (hT : TT T) (hI : Rng M) (h50 : M 5 0 = ((2 : Nat) : Int)) {f : Nat} (hf : fF f) (hG : Gm T M) {step k : Int} {s : Nat → Int} {n p : Int} (hA : LxA M s n p) (p0 : 0 ≤ k) (p1 : M f 2 + k + 1 ≤ M 5 2) (p2 : 1 ≤ owK s n p ∧ owK s n p ≤ 4) : cC k_P xs Ln (d + 3) 93 [rf 4, rf f, (0, step)] (T, M) (qG T M fS_par 0 (fun v M1 => v = 1 ∧ (M1 f 2 + k ≤ M1 5 2 ∧ (M1 5 3 = 0 ∨ M1 5 3 = 5 ∨ M1 f 2 + k + 1 ≤ M1 5 2)) ∧ ((M1 f 2 = M f 2 + 1 ∧ p + 1 ≤ owE s n p) ∧ OFp f M M1) ∧ LxA M1 s n (owE s n p))) := by
  show cP k_P xs Ln (d + 3) 93 0 [(0, rf 4), (1, rf f), (2, (0, step))] [] (T, M) _
  have hFm : Fr fS_par M M := Fr.refl
  have h51 := hA.2.1
  have h0 := hA.2.2.1
  have hpn := hA.2.2.2.1
  have h53 := hA.2.2.2.2.1
  have h55 := hA.2.2.2.2.2.1
  have h51r := rg_5_1 hI
  have h52 := rg_5_2 hI
  have h53r := rg_5_3 hI
  refine s_aload_n kx_93_0 rfl ?_
  refine s_iload_n kx_93_1 rfl ?_
  refine s_callV2 (k := f) (s1 := 2) (s2 := 0) (as := [(0, step)]) (rest := []) kx_93_2 kp_93_31 (Or.inl rfl) rfl (tkf_0 hT hf) ki_10 kcl_10 rfl rfl (by decide) (f_10 (d := d) (step := step) hT hI hf hG (by omega)) (kGV (fun T2 M2 hT2 hI2 fr2 hG2 v1p => ?_))
  have hFm2 := hFm.call fr2 rfl
  have tr3 := (fr2 5 2 rfl)
  have tr4 := (fr2 5 3 rfl)
  have tr5 := rg_5_2 hI2
  have tr6 := rg_5_3 hI2
  have hof7 := OFp.trans (OFp.refl (M := M)) v1p.2
  refine s_aload_n kx_93_5 rfl ?_
  refine r_getR (k := 4) (f := 0) (k2 := 5) kx_93_6 kp_93_12 (tk_4 hT2) kf_7_0 (by decide) (rq_4_0 hI2) ?_
  refine s_callV2 (k := 5) (s1 := 1) (s2 := 0) (as := []) (rest := []) kx_93_9 kp_93_28 (Or.inl rfl) rfl (tk_5 hT2) ki_26 kcl_26 rfl rfl (by decide) (f_26 (d := d) hT2 hI2 ((fr2 5 0 rfl).trans h50) (LxA.nx (LxA.fr hA fr2 rfl) (by omega) (by omega))) (kV (fun M9 hI9 fr9 v8p => ?_))
  have hFm9 := hFm2.call fr9 rfl
  have tr10 := (fr9 f 2 (by rcases hf with rfl | rfl | rfl | rfl <;> rfl))
  have tr11 := rg_5_2 hI9
  have tr12 := rg_5_3 hI9
  have la13b := (v8p.1).2.1
  have la13c := (v8p.1).2.2.1
  have la13d := (v8p.1).2.2.2.1
  have la13e := (v8p.1).2.2.2.2.1
  have la13f := (v8p.1).2.2.2.2.2.1
  have la13z := owE_gt (s := s) ((LxA.fr hA fr2 rfl)).2.2.2.1 (by omega)
  refine s_iconst (v := 1) kx_93_12 (by decide) ?_
  exact s_iret kx_93_13 (Or.inr ⟨kq_93, by omega⟩) ⟨_, _, _, rfl, rfl, hT2, hI9, hFm9, (Gm.fr hG2 fr9 rfl), ⟨rfl, ⟨by omega, by omega⟩, ⟨⟨by omega, by omega⟩, (OFp.fr hof7 fr9 rfl)⟩, v8p.1⟩⟩
theorem f_94 {xs : Nat → Int} {Ln d : Nat} {T : List cK} {M : cM} (hT : TT T) (hI : Rng M) (h50 : M 5 0 = ((2 : Nat) : Int)) {f : Nat} (hf : fF f) (hG : Gm T M) {o step k : Int} {s : Nat → Int} {n p : Int} (hA : LxA M s n p) (hL : o < 7 → Lf xs Ln d (o + 1)) (p0 : 0 ≤ o ∧ o ≤ 7) (p1 : 0 ≤ k) (p2 : M f 2 + k + 1 ≤ M 5 2) (p3 : owMx s n p ≠ 0) (p4 : owMx s n p ≠ 23) : cC k_P xs Ln (d + 4) 94 [rf 4, rf f, (0, o), (0, step)] (T, M) (qG T M fS_par 0 (fun v M1 => (v = 1 ∧ (M1 f 2 + k ≤ M1 5 2 ∧ (M1 5 3 = 0 ∨ M1 5 3 = 5 ∨ M1 f 2 + k + 1 ≤ M1 5 2)) ∧ (M f 2 + 1 ≤ M1 f 2 ∧ OFp f M M1) ∧ SumO M1 s n p 0 (fun c q => PtOk s n o p c q)) ∨ (v = 0 ∧ (M1 f 2 + k ≤ M1 5 2 ∧ OFp f M M1) ∧ SumX M1 (fun g => PtX s n o p g)))) := by
  show cP k_P xs Ln (d + 4) 94 0 [(0, rf 4), (1, rf f), (2, (0, o)), (3, (0, step))] [] (T, M) _
  have hFm : Fr fS_par M M := Fr.refl
  have h51 := hA.2.1
  have h0 := hA.2.2.1
  have hpn := hA.2.2.2.1
  have h53 := hA.2.2.2.2.1
  have h55 := hA.2.2.2.2.2.1
  have h51r := rg_5_1 hI
  have h52 := rg_5_2 hI
  have h53r := rg_5_3 hI
  have hmx := p3
  have hm23 := p4
  have hm1 := owMx_1 hmx
  refine s_aload_n kx_94_0 rfl ?_
  refine r_getR (k := 4) (f := 0) (k2 := 5) kx_94_1 kp_94_12 (tk_4 hT) kf_7_0 (by decide) (rq_4_0 hI) ?_
  refine s_callV2 (k := 5) (s1 := 1) (s2 := 0) (as := []) (rest := []) kx_94_4 kp_94_28 (Or.inl rfl) rfl (tk_5 hT) ki_26 kcl_26 rfl rfl (by decide) (f_26 (d := d + 1) hT hI h50 (LxA.nx hA (by omega) (by omega))) (kV (fun M2 hI2 fr2 v1p => ?_))
  have hFm2 := hFm.call fr2 rfl
  have tr3 := (fr2 f 2 (by rcases hf with rfl | rfl | rfl | rfl <;> rfl))
  have tr4 := rg_5_2 hI2
  have tr5 := rg_5_3 hI2
  have la6b := (v1p.1).2.1
  have la6c := (v1p.1).2.2.1
  have la6d := (v1p.1).2.2.2.1
  have la6e := (v1p.1).2.2.2.2.1
  have la6f := (v1p.1).2.2.2.2.2.1
  have la6z := owE_gt (s := s) (hA).2.2.2.1 (by omega)
  refine s_aload_n kx_94_7 rfl ?_
  refine s_bipush (v := 40) kx_94_8 (by decide) ?_
  refine s_iload_n kx_94_10 rfl ?_
  refine s_callV2 (k := 4) (s1 := 3) (s2 := 0) (as := [(0, o), (0, 40)]) (rest := []) kx_94_11 kp_94_52 (Or.inl rfl) rfl (tk_4 hT) ki_101 kcl_101 rfl rfl (by decide) (f_101 (d := d) (c := 40) (o := o) hT hI2 ((fr2 5 0 rfl).trans h50) v1p.1 (by omega)) (kW (fun v7 M8 hI8 fr8 v7p => ?_))
  have hFm8 := hFm2.call fr8 rfl
  have tr9 := (fr8 f 2 (by rcases hf with rfl | rfl | rfl | rfl <;> rfl))
  have tr10 := rg_5_2 hI8
  have tr11 := rg_5_3 hI8
  refine s_if_eq (t := 67) kx_94_14 (by decide) (fun hc12 => ?_) (fun hc12 => ?_)
  · replace v7p := v7p.resolve_left (by omega)
    have hx13 : SumX M8 (fun g => PtX s n o p g) := (v7p.2.2.mono (fun g z => z.elim (fun a => by rw [a.2]; exact mx_x1 hmx a.1) (fun a => by rw [a.2.2]; exact mx_x5 hmx a.1 (by omega))))
    refine s_iconst (v := 0) kx_94_67 (by decide) ?_
    refine s_istore kx_94_68 km_94_4 rfl ?_
    refine s_aload_n kx_94_70 rfl ?_
    refine s_iload_n kx_94_71 rfl ?_
    refine s_callV2 (k := f) (s1 := 2) (s2 := 0) (as := [(0, step)]) (rest := []) kx_94_72 kp_94_31 (Or.inl rfl) rfl (tkf_0 hT hf) ki_10 kcl_10 rfl rfl (by decide) (f_10 (d := d + 1) (step := step) hT hI8 hf (Gm.fr (Gm.fr hG fr2 rfl) fr8 rfl) (by omega)) (kGV (fun T15 M15 hT15 hI15 fr15 hG15 v14p => ?_))
    have hFm15 := hFm8.call fr15 rfl
    have tr16 := (fr15 5 2 rfl)
    have tr17 := (fr15 5 3 rfl)
    have tr18 := rg_5_2 hI15
    have tr19 := rg_5_3 hI15
    have hof20 := OFp.trans (OFp.fr (OFp.fr (OFp.refl (M := M)) fr2 rfl) fr8 rfl) v14p.2
    refine s_iload kx_94_75 rfl ?_
    exact s_iret kx_94_77 (Or.inr ⟨kq_94, by omega⟩) ⟨_, _, _, rfl, rfl, hT15, hI15, hFm15, hG15, (Or.inr ⟨rfl, ⟨by omega, hof20⟩, (SumX.fr hx13 fr15 rfl)⟩)⟩
  · replace v7p := v7p.resolve_right (by omega)
    refine s_aload_n kx_94_17 rfl ?_
    refine s_aload_n kx_94_18 rfl ?_
    refine s_iload_n kx_94_19 rfl ?_
    refine s_iconst (v := 1) kx_94_20 (by decide) ?_
    refine r_add kx_94_21 ⟨by omega, by omega⟩ ?_
    refine s_callV2 (k := 4) (s1 := 3) (s2 := 0) (as := [(0, (o + 1)), rf f]) (rest := []) kx_94_22 kp_94_56 (Or.inl rfl) rfl (tk_4 hT) ki_89 kcl_89 rfl rfl (by decide) (cC.deep ((hL (by omega)).1 (k := k + 1) hT hI8 ((fr8 5 0 rfl).trans ((fr2 5 0 rfl).trans h50)) hf (Gm.fr (Gm.fr hG fr2 rfl) fr8 rfl) v7p.2.2.2.2.2 (by omega) (by omega)) (by omega)) (kG (fun v21 T22 M22 hT22 hI22 fr22 hG22 v21p => ?_))
    have hFm22 := hFm8.call fr22 rfl
    have tr23 := rg_5_2 hI22
    have tr24 := rg_5_3 hI22
    have hof25 := OFp.trans (OFp.fr (OFp.fr (OFp.refl (M := M)) fr2 rfl) fr8 rfl) (v21p.elim (fun z => z.2.2.1.2) (fun z => z.2.1.2))
    refine s_if_eq (t := 67) kx_94_25 (by decide) (fun hc26 => ?_) (fun hc26 => ?_)
    · replace v21p := v21p.resolve_left (by omega)
      have hx27 : SumX M22 (fun g => PtX s n o p g) := (v21p.2.2.mono (fun g z => mm_x hmx hm23 v7p.2.2.2.2.1 (by omega) (Or.inl z)))
      refine s_iconst (v := 0) kx_94_67 (by decide) ?_
      refine s_istore kx_94_68 km_94_4 rfl ?_
      refine s_aload_n kx_94_70 rfl ?_
      refine s_iload_n kx_94_71 rfl ?_
      refine s_callV2 (k := f) (s1 := 2) (s2 := 0) (as := [(0, step)]) (rest := []) kx_94_72 kp_94_31 (Or.inl rfl) rfl (tkf_0 hT22 hf) ki_10 kcl_10 rfl rfl (by decide) (f_10 (d := d + 1) (step := step) hT22 hI22 hf hG22 (by omega)) (kGV (fun T29 M29 hT29 hI29 fr29 hG29 v28p => ?_))
      have hFm29 := hFm22.call fr29 rfl
      have tr30 := (fr29 5 2 rfl)
      have tr31 := (fr29 5 3 rfl)
      have tr32 := rg_5_2 hI29
      have tr33 := rg_5_3 hI29
      have hof34 := OFp.trans hof25 v28p.2
      refine s_iload kx_94_75 rfl ?_
      exact s_iret kx_94_77 (Or.inr ⟨kq_94, by omega⟩) ⟨_, _, _, rfl, rfl, hT29, hI29, hFm29, hG29, (Or.inr ⟨rfl, ⟨by omega, hof34⟩, (SumX.fr hx27 fr29 rfl)⟩)⟩
    · replace v21p := v21p.resolve_right (by omega)
      obtain ⟨c1, q1, q1l, q1p, q1o⟩ := v21p.2.2.2
      have q1b := q1l.2.1
      have q1c := q1l.2.2.1
      have q1d := q1l.2.2.2.1
      have q1e := q1l.2.2.2.2.1
      have q1f := q1l.2.2.2.2.2.1
      refine s_aload_n kx_94_28 rfl ?_
      refine r_getR (k := 4) (f := 0) (k2 := 5) kx_94_29 kp_94_12 (tk_4 hT22) kf_7_0 (by decide) (rq_4_0 hI22) ?_
      refine s_bipush (v := 44) kx_94_32 (by decide) ?_
      refine s_callV2 (k := 5) (s1 := 2) (s2 := 0) (as := [(0, 44)]) (rest := []) kx_94_34 kp_94_59 (Or.inl rfl) rfl (tk_5 hT22) ki_24 kcl_24 rfl rfl (by decide) (f_24 (d := d) (c := 44) hT22 hI22 ((fr22 5 0 rfl).trans ((fr8 5 0 rfl).trans ((fr2 5 0 rfl).trans h50))) q1l) (kW (fun v35 M36 hI36 fr36 v35p => ?_))
      have hFm36 := hFm22.call fr36 rfl
      have tr37 := (fr36 f 2 (by rcases hf with rfl | rfl | rfl | rfl <;> rfl))
      have tr38 := rg_5_2 hI36
      have tr39 := rg_5_3 hI36
      refine s_if_eq (t := 67) kx_94_37 (by decide) (fun hc40 => ?_) (fun hc40 => ?_)
      · replace v35p := v35p.resolve_left (by omega)
        have hx41 : SumX M36 (fun g => PtX s n o p g) := (SumX.un v35p.2.2.1 (by omega) (mm_x hmx hm23 v7p.2.2.2.2.1 (by omega) (Or.inr ⟨_, _, q1o.1, Or.inl ⟨q1o.2, by omega, rfl⟩⟩)))
        refine s_iconst (v := 0) kx_94_67 (by decide) ?_
        refine s_istore kx_94_68 km_94_4 rfl ?_
        refine s_aload_n kx_94_70 rfl ?_
        refine s_iload_n kx_94_71 rfl ?_
        refine s_callV2 (k := f) (s1 := 2) (s2 := 0) (as := [(0, step)]) (rest := []) kx_94_72 kp_94_31 (Or.inl rfl) rfl (tkf_0 hT22 hf) ki_10 kcl_10 rfl rfl (by decide) (f_10 (d := d + 1) (step := step) hT22 hI36 hf (Gm.fr hG22 fr36 rfl) (by omega)) (kGV (fun T43 M43 hT43 hI43 fr43 hG43 v42p => ?_))
        have hFm43 := hFm36.call fr43 rfl
        have tr44 := (fr43 5 2 rfl)
        have tr45 := (fr43 5 3 rfl)
        have tr46 := rg_5_2 hI43
        have tr47 := rg_5_3 hI43
        have hof48 := OFp.trans (OFp.fr hof25 fr36 rfl) v42p.2
        refine s_iload kx_94_75 rfl ?_
        exact s_iret kx_94_77 (Or.inr ⟨kq_94, by omega⟩) ⟨_, _, _, rfl, rfl, hT43, hI43, hFm43, hG43, (Or.inr ⟨rfl, ⟨by omega, hof48⟩, (SumX.fr hx41 fr43 rfl)⟩)⟩
      · replace v35p := v35p.resolve_right (by omega)
        refine s_aload_n kx_94_40 rfl ?_
        refine s_aload_n kx_94_41 rfl ?_
        refine s_iload_n kx_94_42 rfl ?_
        refine s_iconst (v := 1) kx_94_43 (by decide) ?_
        refine r_add kx_94_44 ⟨by omega, by omega⟩ ?_
        refine s_callV2 (k := 4) (s1 := 3) (s2 := 0) (as := [(0, (o + 1)), rf f]) (rest := []) kx_94_45 kp_94_56 (Or.inl rfl) rfl (tk_4 hT22) ki_89 kcl_89 rfl rfl (by decide) (cC.deep ((hL (by omega)).1 (k := k + 1) hT22 hI36 ((fr36 5 0 rfl).trans ((fr22 5 0 rfl).trans ((fr8 5 0 rfl).trans ((fr2 5 0 rfl).trans h50)))) hf (Gm.fr hG22 fr36 rfl) v35p.2.2.1 (by omega) (by omega)) (by omega)) (kG (fun v49 T50 M50 hT50 hI50 fr50 hG50 v49p => ?_))
        have hFm50 := hFm36.call fr50 rfl
        have tr51 := rg_5_2 hI50
        have tr52 := rg_5_3 hI50
        have hof53 := OFp.trans (OFp.fr hof25 fr36 rfl) (v49p.elim (fun z => z.2.2.1.2) (fun z => z.2.1.2))
        refine s_if_eq (t := 67) kx_94_48 (by decide) (fun hc54 => ?_) (fun hc54 => ?_)
        · replace v49p := v49p.resolve_left (by omega)
          have hx55 : SumX M50 (fun g => PtX s n o p g) := (v49p.2.2.mono (fun g z => mm_x hmx hm23 v7p.2.2.2.2.1 (by omega) (Or.inr ⟨_, _, q1o.1, Or.inr ⟨by omega, Or.inl z⟩⟩)))
          refine s_iconst (v := 0) kx_94_67 (by decide) ?_
          refine s_istore kx_94_68 km_94_4 rfl ?_
          refine s_aload_n kx_94_70 rfl ?_
          refine s_iload_n kx_94_71 rfl ?_
          refine s_callV2 (k := f) (s1 := 2) (s2 := 0) (as := [(0, step)]) (rest := []) kx_94_72 kp_94_31 (Or.inl rfl) rfl (tkf_0 hT50 hf) ki_10 kcl_10 rfl rfl (by decide) (f_10 (d := d + 1) (step := step) hT50 hI50 hf hG50 (by omega)) (kGV (fun T57 M57 hT57 hI57 fr57 hG57 v56p => ?_))
          have hFm57 := hFm50.call fr57 rfl
          have tr58 := (fr57 5 2 rfl)
          have tr59 := (fr57 5 3 rfl)
          have tr60 := rg_5_2 hI57
          have tr61 := rg_5_3 hI57
          have hof62 := OFp.trans hof53 v56p.2
          refine s_iload kx_94_75 rfl ?_
          exact s_iret kx_94_77 (Or.inr ⟨kq_94, by omega⟩) ⟨_, _, _, rfl, rfl, hT57, hI57, hFm57, hG57, (Or.inr ⟨rfl, ⟨by omega, hof62⟩, (SumX.fr hx55 fr57 rfl)⟩)⟩
        · replace v49p := v49p.resolve_right (by omega)
          obtain ⟨c2, q2, q2l, q2p, q2o⟩ := v49p.2.2.2
          have q2b := q2l.2.1
          have q2c := q2l.2.2.1
          have q2d := q2l.2.2.2.1
          have q2e := q2l.2.2.2.2.1
          have q2f := q2l.2.2.2.2.2.1
          refine s_aload_n kx_94_51 rfl ?_
          refine r_getR (k := 4) (f := 0) (k2 := 5) kx_94_52 kp_94_12 (tk_4 hT50) kf_7_0 (by decide) (rq_4_0 hI50) ?_
          refine s_bipush (v := 41) kx_94_55 (by decide) ?_
          refine s_callV2 (k := 5) (s1 := 2) (s2 := 0) (as := [(0, 41)]) (rest := []) kx_94_57 kp_94_59 (Or.inl rfl) rfl (tk_5 hT50) ki_24 kcl_24 rfl rfl (by decide) (f_24 (d := d) (c := 41) hT50 hI50 ((fr50 5 0 rfl).trans ((fr36 5 0 rfl).trans ((fr22 5 0 rfl).trans ((fr8 5 0 rfl).trans ((fr2 5 0 rfl).trans h50))))) q2l) (kW (fun v63 M64 hI64 fr64 v63p => ?_))
          have hFm64 := hFm50.call fr64 rfl
          have tr65 := (fr64 f 2 (by rcases hf with rfl | rfl | rfl | rfl <;> rfl))
          have tr66 := rg_5_2 hI64
          have tr67 := rg_5_3 hI64
          refine s_if_eq (t := 67) kx_94_60 (by decide) (fun hc68 => ?_) (fun hc68 => ?_)
          · replace v63p := v63p.resolve_left (by omega)
            have hx69 : SumX M64 (fun g => PtX s n o p g) := (SumX.un v63p.2.2.1 (by omega) (mm_x hmx hm23 v7p.2.2.2.2.1 (by omega) (Or.inr ⟨_, _, q1o.1, Or.inr ⟨by omega, Or.inr ⟨_, _, q2o.1, q2o.2, by omega, rfl⟩⟩⟩)))
            refine s_iconst (v := 0) kx_94_67 (by decide) ?_
            refine s_istore kx_94_68 km_94_4 rfl ?_
            refine s_aload_n kx_94_70 rfl ?_
            refine s_iload_n kx_94_71 rfl ?_
            refine s_callV2 (k := f) (s1 := 2) (s2 := 0) (as := [(0, step)]) (rest := []) kx_94_72 kp_94_31 (Or.inl rfl) rfl (tkf_0 hT50 hf) ki_10 kcl_10 rfl rfl (by decide) (f_10 (d := d + 1) (step := step) hT50 hI64 hf (Gm.fr hG50 fr64 rfl) (by omega)) (kGV (fun T71 M71 hT71 hI71 fr71 hG71 v70p => ?_))
            have hFm71 := hFm64.call fr71 rfl
            have tr72 := (fr71 5 2 rfl)
            have tr73 := (fr71 5 3 rfl)
            have tr74 := rg_5_2 hI71
            have tr75 := rg_5_3 hI71
            have hof76 := OFp.trans (OFp.fr hof53 fr64 rfl) v70p.2
            refine s_iload kx_94_75 rfl ?_
            exact s_iret kx_94_77 (Or.inr ⟨kq_94, by omega⟩) ⟨_, _, _, rfl, rfl, hT71, hI71, hFm71, hG71, (Or.inr ⟨rfl, ⟨by omega, hof76⟩, (SumX.fr hx69 fr71 rfl)⟩)⟩
          · replace v63p := v63p.resolve_right (by omega)
            have ho77 : SumO M64 s n p 0 (fun c q => PtOk s n o p c q) := ⟨_, _, v63p.2.2.1, by omega, mm_ok hmx hm23 v7p.2.2.2.2.1 (by omega) q1o.1 (by omega) q2o.1 (by omega)⟩
            refine s_iconst (v := 1) kx_94_63 (by decide) ?_
            refine s_goto (t := 68) kx_94_64 (by decide) ?_
            refine s_istore kx_94_68 km_94_4 rfl ?_
            refine s_aload_n kx_94_70 rfl ?_
            refine s_iload_n kx_94_71 rfl ?_
            refine s_callV2 (k := f) (s1 := 2) (s2 := 0) (as := [(0, step)]) (rest := []) kx_94_72 kp_94_31 (Or.inl rfl) rfl (tkf_0 hT50 hf) ki_10 kcl_10 rfl rfl (by decide) (f_10 (d := d + 1) (step := step) hT50 hI64 hf (Gm.fr hG50 fr64 rfl) (by omega)) (kGV (fun T79 M79 hT79 hI79 fr79 hG79 v78p => ?_))
            have hFm79 := hFm64.call fr79 rfl
            have tr80 := (fr79 5 2 rfl)
            have tr81 := (fr79 5 3 rfl)
            have tr82 := rg_5_2 hI79
            have tr83 := rg_5_3 hI79
            have hof84 := OFp.trans (OFp.fr hof53 fr64 rfl) v78p.2
            refine s_iload kx_94_75 rfl ?_
            exact s_iret kx_94_77 (Or.inr ⟨kq_94, by omega⟩) ⟨_, _, _, rfl, rfl, hT79, hI79, hFm79, hG79, (Or.inl ⟨rfl, ⟨by omega, by omega⟩, ⟨by omega, hof84⟩, (SumO.fr ho77 fr79 rfl)⟩)⟩
theorem f_95 {xs : Nat → Int} {Ln d : Nat} {T : List cK} {M : cM} (hT : TT T) (hI : Rng M) (h50 : M 5 0 = ((2 : Nat) : Int)) {f : Nat} (hf : fF f) (hG : Gm T M) {o k : Int} {s : Nat → Int} {n p : Int} (hA : LxA M s n p) (hL : o < 7 → Lf xs Ln d (o + 1)) (p0 : 0 ≤ o ∧ o ≤ 7) (p1 : 0 ≤ k) (p2 : M f 2 + k + 1 ≤ M 5 2) (p3 : owMx s n p = 23) : cC k_P xs Ln (d + 4) 95 [rf 4, rf f, (0, o)] (T, M) (qG T M fS_par 0 (fun v M1 => (v = 1 ∧ (M1 f 2 + k ≤ M1 5 2 ∧ (M1 5 3 = 0 ∨ M1 5 3 = 5 ∨ M1 f 2 + k + 1 ≤ M1 5 2)) ∧ (M f 2 + 1 ≤ M1 f 2 ∧ OFp f M M1) ∧ SumO M1 s n p 0 (fun c q => PtOk s n o p c q)) ∨ (v = 0 ∧ (M1 f 2 + k ≤ M1 5 2 ∧ OFp f M M1) ∧ SumX M1 (fun g => PtX s n o p g)))) := by
  show cP k_P xs Ln (d + 4) 95 0 [(0, rf 4), (1, rf f), (2, (0, o))] [] (T, M) _
  have hFm : Fr fS_par M M := Fr.refl
  have h51 := hA.2.1
  have h0 := hA.2.2.1
  have hpn := hA.2.2.2.1
  have h53 := hA.2.2.2.2.1
  have h55 := hA.2.2.2.2.2.1
  have h51r := rg_5_1 hI
  have h52 := rg_5_2 hI
  have h53r := rg_5_3 hI
  have hm23 := p3
  have hmx : owMx s n p ≠ 0 := by omega
  have hm1 := owMx_1 hmx
  refine s_aload_n kx_95_0 rfl ?_
  refine r_getR (k := 4) (f := 0) (k2 := 5) kx_95_1 kp_95_12 (tk_4 hT) kf_7_0 (by decide) (rq_4_0 hI) ?_
  refine s_callV2 (k := 5) (s1 := 1) (s2 := 0) (as := []) (rest := []) kx_95_4 kp_95_28 (Or.inl rfl) rfl (tk_5 hT) ki_26 kcl_26 rfl rfl (by decide) (f_26 (d := d + 1) hT hI h50 (LxA.nx hA (by omega) (by omega))) (kV (fun M2 hI2 fr2 v1p => ?_))
  have hFm2 := hFm.call fr2 rfl
  have tr3 := (fr2 f 2 (by rcases hf with rfl | rfl | rfl | rfl <;> rfl))
  have tr4 := rg_5_2 hI2
  have tr5 := rg_5_3 hI2
  have la6b := (v1p.1).2.1
  have la6c := (v1p.1).2.2.1
  have la6d := (v1p.1).2.2.2.1
  have la6e := (v1p.1).2.2.2.2.1
  have la6f := (v1p.1).2.2.2.2.2.1
  have la6z := owE_gt (s := s) (hA).2.2.2.1 (by omega)
  refine s_aload_n kx_95_7 rfl ?_
  refine s_bipush (v := 40) kx_95_8 (by decide) ?_
  refine s_iload_n kx_95_10 rfl ?_
  refine s_callV2 (k := 4) (s1 := 3) (s2 := 0) (as := [(0, o), (0, 40)]) (rest := []) kx_95_11 kp_95_52 (Or.inl rfl) rfl (tk_4 hT) ki_101 kcl_101 rfl rfl (by decide) (f_101 (d := d) (c := 40) (o := o) hT hI2 ((fr2 5 0 rfl).trans h50) v1p.1 (by omega)) (kW (fun v7 M8 hI8 fr8 v7p => ?_))
  have hFm8 := hFm2.call fr8 rfl
  have tr9 := (fr8 f 2 (by rcases hf with rfl | rfl | rfl | rfl <;> rfl))
  have tr10 := rg_5_2 hI8
  have tr11 := rg_5_3 hI8
  refine s_if_eq (t := 90) kx_95_14 (by decide) (fun hc12 => ?_) (fun hc12 => ?_)
  · replace v7p := v7p.resolve_left (by omega)
    have hx13 : SumX M8 (fun g => PtX s n o p g) := (v7p.2.2.mono (fun g z => z.elim (fun a => by rw [a.2]; exact mx_x1 hmx a.1) (fun a => by rw [a.2.2]; exact mx_x5 hmx a.1 (by omega))))
    refine s_iconst (v := 0) kx_95_90 (by decide) ?_
    refine s_istore_n kx_95_91 km_95_3 rfl ?_
    refine s_aload_n kx_95_92 rfl ?_
    refine s_bipush (v := (-20)) kx_95_93 (by decide) ?_
    refine s_callV2 (k := f) (s1 := 2) (s2 := 0) (as := [(0, (-20))]) (rest := []) kx_95_95 kp_95_31 (Or.inl rfl) rfl (tkf_0 hT hf) ki_10 kcl_10 rfl rfl (by decide) (f_10 (d := d + 1) (step := (-20)) hT hI8 hf (Gm.fr (Gm.fr hG fr2 rfl) fr8 rfl) (by omega)) (kGV (fun T15 M15 hT15 hI15 fr15 hG15 v14p => ?_))
    have hFm15 := hFm8.call fr15 rfl
    have tr16 := (fr15 5 2 rfl)
    have tr17 := (fr15 5 3 rfl)
    have tr18 := rg_5_2 hI15
    have tr19 := rg_5_3 hI15
    have hof20 := OFp.trans (OFp.fr (OFp.fr (OFp.refl (M := M)) fr2 rfl) fr8 rfl) v14p.2
    refine s_iload_n kx_95_98 rfl ?_
    exact s_iret kx_95_99 (Or.inr ⟨kq_95, by omega⟩) ⟨_, _, _, rfl, rfl, hT15, hI15, hFm15, hG15, (Or.inr ⟨rfl, ⟨by omega, hof20⟩, (SumX.fr hx13 fr15 rfl)⟩)⟩
  · replace v7p := v7p.resolve_right (by omega)
    refine s_aload_n kx_95_17 rfl ?_
    refine s_aload_n kx_95_18 rfl ?_
    refine s_iload_n kx_95_19 rfl ?_
    refine s_iconst (v := 1) kx_95_20 (by decide) ?_
    refine r_add kx_95_21 ⟨by omega, by omega⟩ ?_
    refine s_callV2 (k := 4) (s1 := 3) (s2 := 0) (as := [(0, (o + 1)), rf f]) (rest := []) kx_95_22 kp_95_73 (Or.inl rfl) rfl (tk_4 hT) ki_96 kcl_96 rfl rfl (by decide) (cC.deep ((hL (by omega)).2.1 (k := k + 1) hT hI8 ((fr8 5 0 rfl).trans ((fr2 5 0 rfl).trans h50)) hf (Gm.fr (Gm.fr hG fr2 rfl) fr8 rfl) v7p.2.2.2.2.2 (by omega) (by omega)) (by omega)) (kG (fun v21 T22 M22 hT22 hI22 fr22 hG22 v21p => ?_))
    have hFm22 := hFm8.call fr22 rfl
    have tr23 := rg_5_2 hI22
    have tr24 := rg_5_3 hI22
    have hof25 := OFp.trans (OFp.fr (OFp.fr (OFp.refl (M := M)) fr2 rfl) fr8 rfl) (v21p.elim (fun z => z.2.2.1.2) (fun z => z.2.1.2))
    refine s_if_eq (t := 90) kx_95_25 (by decide) (fun hc26 => ?_) (fun hc26 => ?_)
    · replace v21p := v21p.resolve_left (by omega)
      have hx27 : SumX M22 (fun g => PtX s n o p g) := (v21p.2.2.mono (fun g z => wh_x hm23 v7p.2.2.2.2.1 (by omega) (Or.inl z)))
      refine s_iconst (v := 0) kx_95_90 (by decide) ?_
      refine s_istore_n kx_95_91 km_95_3 rfl ?_
      refine s_aload_n kx_95_92 rfl ?_
      refine s_bipush (v := (-20)) kx_95_93 (by decide) ?_
      refine s_callV2 (k := f) (s1 := 2) (s2 := 0) (as := [(0, (-20))]) (rest := []) kx_95_95 kp_95_31 (Or.inl rfl) rfl (tkf_0 hT22 hf) ki_10 kcl_10 rfl rfl (by decide) (f_10 (d := d + 1) (step := (-20)) hT22 hI22 hf hG22 (by omega)) (kGV (fun T29 M29 hT29 hI29 fr29 hG29 v28p => ?_))
      have hFm29 := hFm22.call fr29 rfl
      have tr30 := (fr29 5 2 rfl)
      have tr31 := (fr29 5 3 rfl)
      have tr32 := rg_5_2 hI29
      have tr33 := rg_5_3 hI29
      have hof34 := OFp.trans hof25 v28p.2
      refine s_iload_n kx_95_98 rfl ?_
      exact s_iret kx_95_99 (Or.inr ⟨kq_95, by omega⟩) ⟨_, _, _, rfl, rfl, hT29, hI29, hFm29, hG29, (Or.inr ⟨rfl, ⟨by omega, hof34⟩, (SumX.fr hx27 fr29 rfl)⟩)⟩
    · replace v21p := v21p.resolve_right (by omega)
      obtain ⟨c1, q1, q1l, q1p, q1o⟩ := v21p.2.2.2
      have q1b := q1l.2.1
      have q1c := q1l.2.2.1
      have q1d := q1l.2.2.2.1
      have q1e := q1l.2.2.2.2.1
      have q1f := q1l.2.2.2.2.2.1
      refine s_aload_n kx_95_28 rfl ?_
      refine r_getR (k := 4) (f := 0) (k2 := 5) kx_95_29 kp_95_12 (tk_4 hT22) kf_7_0 (by decide) (rq_4_0 hI22) ?_
      refine s_bipush (v := 44) kx_95_32 (by decide) ?_
      refine s_callV2 (k := 5) (s1 := 2) (s2 := 0) (as := [(0, 44)]) (rest := []) kx_95_34 kp_95_59 (Or.inl rfl) rfl (tk_5 hT22) ki_24 kcl_24 rfl rfl (by decide) (f_24 (d := d) (c := 44) hT22 hI22 ((fr22 5 0 rfl).trans ((fr8 5 0 rfl).trans ((fr2 5 0 rfl).trans h50))) q1l) (kW (fun v35 M36 hI36 fr36 v35p => ?_))
      have hFm36 := hFm22.call fr36 rfl
      have tr37 := (fr36 f 2 (by rcases hf with rfl | rfl | rfl | rfl <;> rfl))
      have tr38 := rg_5_2 hI36
      have tr39 := rg_5_3 hI36
      refine s_if_eq (t := 90) kx_95_37 (by decide) (fun hc40 => ?_) (fun hc40 => ?_)
      · replace v35p := v35p.resolve_left (by omega)
        have hx41 : SumX M36 (fun g => PtX s n o p g) := (SumX.un v35p.2.2.1 (by omega) (wh_x hm23 v7p.2.2.2.2.1 (by omega) (Or.inr ⟨_, _, q1o.1, Or.inl ⟨q1o.2, by omega, rfl⟩⟩)))
        refine s_iconst (v := 0) kx_95_90 (by decide) ?_
        refine s_istore_n kx_95_91 km_95_3 rfl ?_
        refine s_aload_n kx_95_92 rfl ?_
        refine s_bipush (v := (-20)) kx_95_93 (by decide) ?_
        refine s_callV2 (k := f) (s1 := 2) (s2 := 0) (as := [(0, (-20))]) (rest := []) kx_95_95 kp_95_31 (Or.inl rfl) rfl (tkf_0 hT22 hf) ki_10 kcl_10 rfl rfl (by decide) (f_10 (d := d + 1) (step := (-20)) hT22 hI36 hf (Gm.fr hG22 fr36 rfl) (by omega)) (kGV (fun T43 M43 hT43 hI43 fr43 hG43 v42p => ?_))
        have hFm43 := hFm36.call fr43 rfl
        have tr44 := (fr43 5 2 rfl)
        have tr45 := (fr43 5 3 rfl)
        have tr46 := rg_5_2 hI43
        have tr47 := rg_5_3 hI43
        have hof48 := OFp.trans (OFp.fr hof25 fr36 rfl) v42p.2
        refine s_iload_n kx_95_98 rfl ?_
        exact s_iret kx_95_99 (Or.inr ⟨kq_95, by omega⟩) ⟨_, _, _, rfl, rfl, hT43, hI43, hFm43, hG43, (Or.inr ⟨rfl, ⟨by omega, hof48⟩, (SumX.fr hx41 fr43 rfl)⟩)⟩
      · replace v35p := v35p.resolve_right (by omega)
        refine s_aload_n kx_95_40 rfl ?_
        refine s_aload_n kx_95_41 rfl ?_
        refine s_iload_n kx_95_42 rfl ?_
        refine s_iconst (v := 1) kx_95_43 (by decide) ?_
        refine r_add kx_95_44 ⟨by omega, by omega⟩ ?_
        refine s_callV2 (k := 4) (s1 := 3) (s2 := 0) (as := [(0, (o + 1)), rf f]) (rest := []) kx_95_45 kp_95_56 (Or.inl rfl) rfl (tk_4 hT22) ki_89 kcl_89 rfl rfl (by decide) (cC.deep ((hL (by omega)).1 (k := k + 1) hT22 hI36 ((fr36 5 0 rfl).trans ((fr22 5 0 rfl).trans ((fr8 5 0 rfl).trans ((fr2 5 0 rfl).trans h50)))) hf (Gm.fr hG22 fr36 rfl) v35p.2.2.1 (by omega) (by omega)) (by omega)) (kG (fun v49 T50 M50 hT50 hI50 fr50 hG50 v49p => ?_))
        have hFm50 := hFm36.call fr50 rfl
        have tr51 := rg_5_2 hI50
        have tr52 := rg_5_3 hI50
        have hof53 := OFp.trans (OFp.fr hof25 fr36 rfl) (v49p.elim (fun z => z.2.2.1.2) (fun z => z.2.1.2))
        refine s_if_eq (t := 90) kx_95_48 (by decide) (fun hc54 => ?_) (fun hc54 => ?_)
        · replace v49p := v49p.resolve_left (by omega)
          have hx55 : SumX M50 (fun g => PtX s n o p g) := (v49p.2.2.mono (fun g z => wh_x hm23 v7p.2.2.2.2.1 (by omega) (Or.inr ⟨_, _, q1o.1, Or.inr ⟨by omega, Or.inl z⟩⟩)))
          refine s_iconst (v := 0) kx_95_90 (by decide) ?_
          refine s_istore_n kx_95_91 km_95_3 rfl ?_
          refine s_aload_n kx_95_92 rfl ?_
          refine s_bipush (v := (-20)) kx_95_93 (by decide) ?_
          refine s_callV2 (k := f) (s1 := 2) (s2 := 0) (as := [(0, (-20))]) (rest := []) kx_95_95 kp_95_31 (Or.inl rfl) rfl (tkf_0 hT50 hf) ki_10 kcl_10 rfl rfl (by decide) (f_10 (d := d + 1) (step := (-20)) hT50 hI50 hf hG50 (by omega)) (kGV (fun T57 M57 hT57 hI57 fr57 hG57 v56p => ?_))
          have hFm57 := hFm50.call fr57 rfl
          have tr58 := (fr57 5 2 rfl)
          have tr59 := (fr57 5 3 rfl)
          have tr60 := rg_5_2 hI57
          have tr61 := rg_5_3 hI57
          have hof62 := OFp.trans hof53 v56p.2
          refine s_iload_n kx_95_98 rfl ?_
          exact s_iret kx_95_99 (Or.inr ⟨kq_95, by omega⟩) ⟨_, _, _, rfl, rfl, hT57, hI57, hFm57, hG57, (Or.inr ⟨rfl, ⟨by omega, hof62⟩, (SumX.fr hx55 fr57 rfl)⟩)⟩
        · replace v49p := v49p.resolve_right (by omega)
          obtain ⟨c2, q2, q2l, q2p, q2o⟩ := v49p.2.2.2
          have q2b := q2l.2.1
          have q2c := q2l.2.2.1
          have q2d := q2l.2.2.2.1
          have q2e := q2l.2.2.2.2.1
          have q2f := q2l.2.2.2.2.2.1
          refine s_aload_n kx_95_51 rfl ?_
          refine r_getR (k := 4) (f := 0) (k2 := 5) kx_95_52 kp_95_12 (tk_4 hT50) kf_7_0 (by decide) (rq_4_0 hI50) ?_
          refine s_bipush (v := 44) kx_95_55 (by decide) ?_
          refine s_callV2 (k := 5) (s1 := 2) (s2 := 0) (as := [(0, 44)]) (rest := []) kx_95_57 kp_95_59 (Or.inl rfl) rfl (tk_5 hT50) ki_24 kcl_24 rfl rfl (by decide) (f_24 (d := d) (c := 44) hT50 hI50 ((fr50 5 0 rfl).trans ((fr36 5 0 rfl).trans ((fr22 5 0 rfl).trans ((fr8 5 0 rfl).trans ((fr2 5 0 rfl).trans h50))))) q2l) (kW (fun v63 M64 hI64 fr64 v63p => ?_))
          have hFm64 := hFm50.call fr64 rfl
          have tr65 := (fr64 f 2 (by rcases hf with rfl | rfl | rfl | rfl <;> rfl))
          have tr66 := rg_5_2 hI64
          have tr67 := rg_5_3 hI64
          refine s_if_eq (t := 90) kx_95_60 (by decide) (fun hc68 => ?_) (fun hc68 => ?_)
          · replace v63p := v63p.resolve_left (by omega)
            have hx69 : SumX M64 (fun g => PtX s n o p g) := (SumX.un v63p.2.2.1 (by omega) (wh_x hm23 v7p.2.2.2.2.1 (by omega) (Or.inr ⟨_, _, q1o.1, Or.inr ⟨by omega, Or.inr ⟨_, _, q2o.1, Or.inl ⟨q2o.2, by omega, rfl⟩⟩⟩⟩)))
            refine s_iconst (v := 0) kx_95_90 (by decide) ?_
            refine s_istore_n kx_95_91 km_95_3 rfl ?_
            refine s_aload_n kx_95_92 rfl ?_
            refine s_bipush (v := (-20)) kx_95_93 (by decide) ?_
            refine s_callV2 (k := f) (s1 := 2) (s2 := 0) (as := [(0, (-20))]) (rest := []) kx_95_95 kp_95_31 (Or.inl rfl) rfl (tkf_0 hT50 hf) ki_10 kcl_10 rfl rfl (by decide) (f_10 (d := d + 1) (step := (-20)) hT50 hI64 hf (Gm.fr hG50 fr64 rfl) (by omega)) (kGV (fun T71 M71 hT71 hI71 fr71 hG71 v70p => ?_))
            have hFm71 := hFm64.call fr71 rfl
            have tr72 := (fr71 5 2 rfl)
            have tr73 := (fr71 5 3 rfl)
            have tr74 := rg_5_2 hI71
            have tr75 := rg_5_3 hI71
            have hof76 := OFp.trans (OFp.fr hof53 fr64 rfl) v70p.2
            refine s_iload_n kx_95_98 rfl ?_
            exact s_iret kx_95_99 (Or.inr ⟨kq_95, by omega⟩) ⟨_, _, _, rfl, rfl, hT71, hI71, hFm71, hG71, (Or.inr ⟨rfl, ⟨by omega, hof76⟩, (SumX.fr hx69 fr71 rfl)⟩)⟩
          · replace v63p := v63p.resolve_right (by omega)
            refine s_aload_n kx_95_63 rfl ?_
            refine s_aload_n kx_95_64 rfl ?_
            refine s_iload_n kx_95_65 rfl ?_
            refine s_iconst (v := 1) kx_95_66 (by decide) ?_
            refine r_add kx_95_67 ⟨by omega, by omega⟩ ?_
            refine s_callV2 (k := 4) (s1 := 3) (s2 := 0) (as := [(0, (o + 1)), rf f]) (rest := []) kx_95_68 kp_95_56 (Or.inl rfl) rfl (tk_4 hT50) ki_89 kcl_89 rfl rfl (by decide) (cC.deep ((hL (by omega)).1 (k := k + 1) hT50 hI64 ((fr64 5 0 rfl).trans ((fr50 5 0 rfl).trans ((fr36 5 0 rfl).trans ((fr22 5 0 rfl).trans ((fr8 5 0 rfl).trans ((fr2 5 0 rfl).trans h50)))))) hf (Gm.fr hG50 fr64 rfl) v63p.2.2.1 (by omega) (by omega)) (by omega)) (kG (fun v77 T78 M78 hT78 hI78 fr78 hG78 v77p => ?_))
            have hFm78 := hFm64.call fr78 rfl
            have tr79 := rg_5_2 hI78
            have tr80 := rg_5_3 hI78
            have hof81 := OFp.trans (OFp.fr hof53 fr64 rfl) (v77p.elim (fun z => z.2.2.1.2) (fun z => z.2.1.2))
            refine s_if_eq (t := 90) kx_95_71 (by decide) (fun hc82 => ?_) (fun hc82 => ?_)
            · replace v77p := v77p.resolve_left (by omega)
              have hx83 : SumX M78 (fun g => PtX s n o p g) := (v77p.2.2.mono (fun g z => wh_x hm23 v7p.2.2.2.2.1 (by omega) (Or.inr ⟨_, _, q1o.1, Or.inr ⟨by omega, Or.inr ⟨_, _, q2o.1, Or.inr ⟨by omega, Or.inl z⟩⟩⟩⟩)))
              refine s_iconst (v := 0) kx_95_90 (by decide) ?_
              refine s_istore_n kx_95_91 km_95_3 rfl ?_
              refine s_aload_n kx_95_92 rfl ?_
              refine s_bipush (v := (-20)) kx_95_93 (by decide) ?_
              refine s_callV2 (k := f) (s1 := 2) (s2 := 0) (as := [(0, (-20))]) (rest := []) kx_95_95 kp_95_31 (Or.inl rfl) rfl (tkf_0 hT78 hf) ki_10 kcl_10 rfl rfl (by decide) (f_10 (d := d + 1) (step := (-20)) hT78 hI78 hf hG78 (by omega)) (kGV (fun T85 M85 hT85 hI85 fr85 hG85 v84p => ?_))
              have hFm85 := hFm78.call fr85 rfl
              have tr86 := (fr85 5 2 rfl)
              have tr87 := (fr85 5 3 rfl)
              have tr88 := rg_5_2 hI85
              have tr89 := rg_5_3 hI85
              have hof90 := OFp.trans hof81 v84p.2
              refine s_iload_n kx_95_98 rfl ?_
              exact s_iret kx_95_99 (Or.inr ⟨kq_95, by omega⟩) ⟨_, _, _, rfl, rfl, hT85, hI85, hFm85, hG85, (Or.inr ⟨rfl, ⟨by omega, hof90⟩, (SumX.fr hx83 fr85 rfl)⟩)⟩
            · replace v77p := v77p.resolve_right (by omega)
              obtain ⟨c3, q3, q3l, q3p, q3o⟩ := v77p.2.2.2
              have q3b := q3l.2.1
              have q3c := q3l.2.2.1
              have q3d := q3l.2.2.2.1
              have q3e := q3l.2.2.2.2.1
              have q3f := q3l.2.2.2.2.2.1
              refine s_aload_n kx_95_74 rfl ?_
              refine r_getR (k := 4) (f := 0) (k2 := 5) kx_95_75 kp_95_12 (tk_4 hT78) kf_7_0 (by decide) (rq_4_0 hI78) ?_
              refine s_bipush (v := 41) kx_95_78 (by decide) ?_
              refine s_callV2 (k := 5) (s1 := 2) (s2 := 0) (as := [(0, 41)]) (rest := []) kx_95_80 kp_95_59 (Or.inl rfl) rfl (tk_5 hT78) ki_24 kcl_24 rfl rfl (by decide) (f_24 (d := d) (c := 41) hT78 hI78 ((fr78 5 0 rfl).trans ((fr64 5 0 rfl).trans ((fr50 5 0 rfl).trans ((fr36 5 0 rfl).trans ((fr22 5 0 rfl).trans ((fr8 5 0 rfl).trans ((fr2 5 0 rfl).trans h50))))))) q3l) (kW (fun v91 M92 hI92 fr92 v91p => ?_))
              have hFm92 := hFm78.call fr92 rfl
              have tr93 := (fr92 f 2 (by rcases hf with rfl | rfl | rfl | rfl <;> rfl))
              have tr94 := rg_5_2 hI92
              have tr95 := rg_5_3 hI92
              refine s_if_eq (t := 90) kx_95_83 (by decide) (fun hc96 => ?_) (fun hc96 => ?_)
              · replace v91p := v91p.resolve_left (by omega)
                have hx97 : SumX M92 (fun g => PtX s n o p g) := (SumX.un v91p.2.2.1 (by omega) (wh_x hm23 v7p.2.2.2.2.1 (by omega) (Or.inr ⟨_, _, q1o.1, Or.inr ⟨by omega, Or.inr ⟨_, _, q2o.1, Or.inr ⟨by omega, Or.inr ⟨_, _, q3o.1, q3o.2, by omega, rfl⟩⟩⟩⟩⟩)))
                refine s_iconst (v := 0) kx_95_90 (by decide) ?_
                refine s_istore_n kx_95_91 km_95_3 rfl ?_
                refine s_aload_n kx_95_92 rfl ?_
                refine s_bipush (v := (-20)) kx_95_93 (by decide) ?_
                refine s_callV2 (k := f) (s1 := 2) (s2 := 0) (as := [(0, (-20))]) (rest := []) kx_95_95 kp_95_31 (Or.inl rfl) rfl (tkf_0 hT78 hf) ki_10 kcl_10 rfl rfl (by decide) (f_10 (d := d + 1) (step := (-20)) hT78 hI92 hf (Gm.fr hG78 fr92 rfl) (by omega)) (kGV (fun T99 M99 hT99 hI99 fr99 hG99 v98p => ?_))
                have hFm99 := hFm92.call fr99 rfl
                have tr100 := (fr99 5 2 rfl)
                have tr101 := (fr99 5 3 rfl)
                have tr102 := rg_5_2 hI99
                have tr103 := rg_5_3 hI99
                have hof104 := OFp.trans (OFp.fr hof81 fr92 rfl) v98p.2
                refine s_iload_n kx_95_98 rfl ?_
                exact s_iret kx_95_99 (Or.inr ⟨kq_95, by omega⟩) ⟨_, _, _, rfl, rfl, hT99, hI99, hFm99, hG99, (Or.inr ⟨rfl, ⟨by omega, hof104⟩, (SumX.fr hx97 fr99 rfl)⟩)⟩
              · replace v91p := v91p.resolve_right (by omega)
                have ho105 : SumO M92 s n p 0 (fun c q => PtOk s n o p c q) := ⟨_, _, v91p.2.2.1, by omega, wh_ok hm23 v7p.2.2.2.2.1 (by omega) q1o.1 (by omega) q2o.1 (by omega) q3o.1 (by omega)⟩
                refine s_iconst (v := 1) kx_95_86 (by decide) ?_
                refine s_goto (t := 91) kx_95_87 (by decide) ?_
                refine s_istore_n kx_95_91 km_95_3 rfl ?_
                refine s_aload_n kx_95_92 rfl ?_
                refine s_bipush (v := (-20)) kx_95_93 (by decide) ?_
                refine s_callV2 (k := f) (s1 := 2) (s2 := 0) (as := [(0, (-20))]) (rest := []) kx_95_95 kp_95_31 (Or.inl rfl) rfl (tkf_0 hT78 hf) ki_10 kcl_10 rfl rfl (by decide) (f_10 (d := d + 1) (step := (-20)) hT78 hI92 hf (Gm.fr hG78 fr92 rfl) (by omega)) (kGV (fun T107 M107 hT107 hI107 fr107 hG107 v106p => ?_))
                have hFm107 := hFm92.call fr107 rfl
                have tr108 := (fr107 5 2 rfl)
                have tr109 := (fr107 5 3 rfl)
                have tr110 := rg_5_2 hI107
                have tr111 := rg_5_3 hI107
                have hof112 := OFp.trans (OFp.fr hof81 fr92 rfl) v106p.2
                refine s_iload_n kx_95_98 rfl ?_
                exact s_iret kx_95_99 (Or.inr ⟨kq_95, by omega⟩) ⟨_, _, _, rfl, rfl, hT107, hI107, hFm107, hG107, (Or.inl ⟨rfl, ⟨by omega, by omega⟩, ⟨by omega, hof112⟩, (SumO.fr ho105 fr107 rfl)⟩)⟩
theorem f_92 {xs : Nat → Int} {Ln d : Nat} {T : List cK} {M : cM} (hT : TT T) (hI : Rng M) (h50 : M 5 0 = ((2 : Nat) : Int)) {f : Nat} (hf : fF f) (hG : Gm T M) {o k : Int} {s : Nat → Int} {n p : Int} (hA : LxA M s n p) (hL : o < 7 → Lf xs Ln d (o + 1)) (p0 : 0 ≤ o ∧ o ≤ 7) (p1 : 0 ≤ k) (p2 : M f 2 + k ≤ M 5 2 ∧ (M 5 3 = 0 ∨ M 5 3 = 5 ∨ M f 2 + k + 1 ≤ M 5 2)) : cC k_P xs Ln (d + 5) 92 [rf 4, rf f, (0, o)] (T, M) (qG T M fS_par 0 (fun v M1 => (v = 1 ∧ (M1 f 2 + k ≤ M1 5 2 ∧ (M1 5 3 = 0 ∨ M1 5 3 = 5 ∨ M1 f 2 + k + 1 ≤ M1 5 2)) ∧ (M f 2 + 1 ≤ M1 f 2 ∧ OFp f M M1) ∧ SumO M1 s n p 0 (fun c q => PtOk s n o p c q)) ∨ (v = 0 ∧ (M1 f 2 + k ≤ M1 5 2 ∧ OFp f M M1) ∧ SumX M1 (fun g => PtX s n o p g)))) := by
  show cP k_P xs Ln (d + 5) 92 0 [(0, rf 4), (1, rf f), (2, (0, o))] [] (T, M) _
  have hFm : Fr fS_par M M := Fr.refl
  have h51 := hA.2.1
  have h0 := hA.2.2.1
  have hpn := hA.2.2.2.1
  have h53 := hA.2.2.2.2.1
  have h55 := hA.2.2.2.2.2.1
  have h51r := rg_5_1 hI
  have h52 := rg_5_2 hI
  have h53r := rg_5_3 hI
  refine s_aload_n kx_92_0 rfl ?_
  refine r_getR (k := 4) (f := 0) (k2 := 5) kx_92_1 kp_92_12 (tk_4 hT) kf_7_0 (by decide) (rq_4_0 hI) ?_
  refine r_getI (k := 5) (f := 3) kx_92_4 kp_92_42 (tk_5 hT) kf_3_3 (fun _ => rfl) (rg_5_3 hI) (fun v1 v1e v1a v1b => ?_)
  refine s_iconst (v := 3) kx_92_7 (by decide) ?_
  refine s_icmp_ne (t := 24) kx_92_8 (by decide) (fun hc2 => ?_) (fun hc2 => ?_)
  · refine s_aload_n kx_92_24 rfl ?_
    refine r_getR (k := 4) (f := 0) (k2 := 5) kx_92_25 kp_92_12 (tk_4 hT) kf_7_0 (by decide) (rq_4_0 hI) ?_
    refine s_bipush (v := 40) kx_92_28 (by decide) ?_
    refine s_callV2 (k := 5) (s1 := 2) (s2 := 0) (as := [(0, 40)]) (rest := []) kx_92_30 kp_92_22 (Or.inl rfl) rfl (tk_5 hT) ki_23 kcl_23 rfl rfl (by decide) (f_23 (d := d + 4) (c := 40) hT hI hA) (kF (fun v3 v3p => ?_))
    refine s_if_eq (t := 75) kx_92_33 (by decide) (fun hc4 => ?_) (fun hc4 => ?_)
    · replace v3p := v3p.resolve_left (by omega)
      refine s_aload_n kx_92_75 rfl ?_
      refine r_getR (k := 4) (f := 0) (k2 := 5) kx_92_76 kp_92_12 (tk_4 hT) kf_7_0 (by decide) (rq_4_0 hI) ?_
      refine r_getK (k := 5) (f := 3) kx_92_79 kp_92_42 (tk_5 hT) kf_3_3 (fun _ => rfl) v1e ?_
      refine s_iconst (v := 1) kx_92_82 (by decide) ?_
      refine s_icmp_eq (t := 94) kx_92_83 (by decide) (fun hc5 => ?_) (fun hc5 => ?_)
      · refine s_aload_n kx_92_94 rfl ?_
        refine r_getR (k := 4) (f := 0) (k2 := 5) kx_92_95 kp_92_12 (tk_4 hT) kf_7_0 (by decide) (rq_4_0 hI) ?_
        refine r_getU (k := 5) (f := 4) kx_92_98 kp_92_46 (tk_5 hT) kf_3_4 (fun _ => rfl) (fun v6 v6e => ?_)
        rcases (by omega : v6 = 113741152 ∨ v6 = 308281344 ∨ v6 = 438042624 ∨ v6 = 446103552 ∨ v6 = 527892480 ∨ v6 = 659111367 ∨ v6 = 672503392 ∨ v6 = 777297172 ∨ v6 = 781325312 ∨ (¬ v6 = 113741152 ∧ ¬ v6 = 308281344 ∧ ¬ v6 = 438042624 ∧ ¬ v6 = 446103552 ∧ ¬ v6 = 527892480 ∧ ¬ v6 = 659111367 ∧ ¬ v6 = 672503392 ∧ ¬ v6 = 777297172 ∧ ¬ v6 = 781325312)) with hs7 | hs7 | hs7 | hs7 | hs7 | hs7 | hs7 | hs7 | hs7 | hs7
        · refine s_lsw (t := 215) kx_92_101 (by decide) 113741152 hs7 (by decide) ?_
          have hwd := wd_of (s := s) (n := n) (p := p) (w := 113741152) (by omega) (by have := hA.2.2.2.2.2.2.2.2 (by omega) (by omega); omega)
          have hcd := cd_of (z := -5) hwd (by omega)
          refine s_aload_n kx_92_215 rfl ?_
          refine s_aload_n kx_92_216 rfl ?_
          refine s_bipush (v := (-5)) kx_92_217 (by decide) ?_
          refine s_callV2 (k := 4) (s1 := 3) (s2 := 0) (as := [(0, (-5)), rf f]) (rest := []) kx_92_219 kp_92_49 (Or.inl rfl) rfl (tk_4 hT) ki_93 kcl_93 rfl rfl (by decide) (f_93 (d := d + 1) (step := (-5)) (k := k) hT hI h50 hf hG hA (by omega) (by omega) (by omega)) (kG (fun v8 T9 M9 hT9 hI9 fr9 hG9 v8p => ?_))
          have hFm9 := hFm.call fr9 rfl
          have tr10 := rg_5_2 hI9
          have tr11 := rg_5_3 hI9
          have hof12 := OFp.trans (OFp.refl (M := M)) v8p.2.2.1.2
          exact s_iret kx_92_222 (Or.inr ⟨kq_92, by omega⟩) ⟨_, _, _, rfl, rfl, hT9, hI9, hFm9, hG9, (Or.inl ⟨v8p.1, v8p.2.1, ⟨by omega, hof12⟩, ⟨_, _, v8p.2.2.2, by omega, pt_wrd (by omega)⟩⟩)⟩
        · refine s_lsw (t := 249) kx_92_101 (by decide) 308281344 hs7 (by decide) ?_
          have hwd := wd_of (s := s) (n := n) (p := p) (w := 308281344) (by omega) (by have := hA.2.2.2.2.2.2.2.2 (by omega) (by omega); omega)
          have hmx := mx_of (z := 23) hwd (by omega)
          refine s_aload_n kx_92_249 rfl ?_
          refine s_aload_n kx_92_250 rfl ?_
          refine s_iload_n kx_92_251 rfl ?_
          refine s_callV2 (k := 4) (s1 := 3) (s2 := 0) (as := [(0, o), rf f]) (rest := []) kx_92_252 kp_92_70 (Or.inl rfl) rfl (tk_4 hT) ki_95 kcl_95 rfl rfl (by decide) (f_95 (d := d) (o := o) (k := k) hT hI h50 hf hG hA (fun h => (hL h).deep (by omega)) (by omega) (by omega) (by omega) (by omega)) (kG (fun v13 T14 M14 hT14 hI14 fr14 hG14 v13p => ?_))
          have hFm14 := hFm.call fr14 rfl
          have tr15 := rg_5_2 hI14
          have tr16 := rg_5_3 hI14
          have hof17 := OFp.trans (OFp.refl (M := M)) (v13p.elim (fun z => z.2.2.1.2) (fun z => z.2.1.2))
          exact s_iret kx_92_255 (Or.inr ⟨kq_92, by omega⟩) ⟨_, _, _, rfl, rfl, hT14, hI14, hFm14, hG14, v13p⟩
        · refine s_lsw (t := 240) kx_92_101 (by decide) 438042624 hs7 (by decide) ?_
          have hwd := wd_of (s := s) (n := n) (p := p) (w := 438042624) (by omega) (by have := hA.2.2.2.2.2.2.2.2 (by omega) (by omega); omega)
          have hmx := mx_of (z := 16) hwd (by omega)
          refine s_aload_n kx_92_240 rfl ?_
          refine s_aload_n kx_92_241 rfl ?_
          refine s_iload_n kx_92_242 rfl ?_
          refine s_bipush (v := (-13)) kx_92_243 (by decide) ?_
          refine s_callV2 (k := 4) (s1 := 4) (s2 := 0) (as := [(0, (-13)), (0, o), rf f]) (rest := []) kx_92_245 kp_92_66 (Or.inl rfl) rfl (tk_4 hT) ki_94 kcl_94 rfl rfl (by decide) (f_94 (d := d) (o := o) (step := (-13)) (k := k) hT hI h50 hf hG hA (fun h => (hL h).deep (by omega)) (by omega) (by omega) (by omega) (by omega) (by omega)) (kG (fun v18 T19 M19 hT19 hI19 fr19 hG19 v18p => ?_))
          have hFm19 := hFm.call fr19 rfl
          have tr20 := rg_5_2 hI19
          have tr21 := rg_5_3 hI19
          have hof22 := OFp.trans (OFp.refl (M := M)) (v18p.elim (fun z => z.2.2.1.2) (fun z => z.2.1.2))
          exact s_iret kx_92_248 (Or.inr ⟨kq_92, by omega⟩) ⟨_, _, _, rfl, rfl, hT19, hI19, hFm19, hG19, v18p⟩
        · refine s_lsw (t := 231) kx_92_101 (by decide) 446103552 hs7 (by decide) ?_
          have hwd := wd_of (s := s) (n := n) (p := p) (w := 446103552) (by omega) (by have := hA.2.2.2.2.2.2.2.2 (by omega) (by omega); omega)
          have hmx := mx_of (z := 15) hwd (by omega)
          refine s_aload_n kx_92_231 rfl ?_
          refine s_aload_n kx_92_232 rfl ?_
          refine s_iload_n kx_92_233 rfl ?_
          refine s_bipush (v := (-12)) kx_92_234 (by decide) ?_
          refine s_callV2 (k := 4) (s1 := 4) (s2 := 0) (as := [(0, (-12)), (0, o), rf f]) (rest := []) kx_92_236 kp_92_66 (Or.inl rfl) rfl (tk_4 hT) ki_94 kcl_94 rfl rfl (by decide) (f_94 (d := d) (o := o) (step := (-12)) (k := k) hT hI h50 hf hG hA (fun h => (hL h).deep (by omega)) (by omega) (by omega) (by omega) (by omega) (by omega)) (kG (fun v23 T24 M24 hT24 hI24 fr24 hG24 v23p => ?_))
          have hFm24 := hFm.call fr24 rfl
          have tr25 := rg_5_2 hI24
          have tr26 := rg_5_3 hI24
          have hof27 := OFp.trans (OFp.refl (M := M)) (v23p.elim (fun z => z.2.2.1.2) (fun z => z.2.1.2))
          exact s_iret kx_92_239 (Or.inr ⟨kq_92, by omega⟩) ⟨_, _, _, rfl, rfl, hT24, hI24, hFm24, hG24, v23p⟩
        · refine s_lsw (t := 223) kx_92_101 (by decide) 527892480 hs7 (by decide) ?_
          have hwd := wd_of (s := s) (n := n) (p := p) (w := 527892480) (by omega) (by have := hA.2.2.2.2.2.2.2.2 (by omega) (by omega); omega)
          have hcd := cd_of (z := -6) hwd (by omega)
          refine s_aload_n kx_92_223 rfl ?_
          refine s_aload_n kx_92_224 rfl ?_
          refine s_bipush (v := (-6)) kx_92_225 (by decide) ?_
          refine s_callV2 (k := 4) (s1 := 3) (s2 := 0) (as := [(0, (-6)), rf f]) (rest := []) kx_92_227 kp_92_49 (Or.inl rfl) rfl (tk_4 hT) ki_93 kcl_93 rfl rfl (by decide) (f_93 (d := d + 1) (step := (-6)) (k := k) hT hI h50 hf hG hA (by omega) (by omega) (by omega)) (kG (fun v28 T29 M29 hT29 hI29 fr29 hG29 v28p => ?_))
          have hFm29 := hFm.call fr29 rfl
          have tr30 := rg_5_2 hI29
          have tr31 := rg_5_3 hI29
          have hof32 := OFp.trans (OFp.refl (M := M)) v28p.2.2.1.2
          exact s_iret kx_92_230 (Or.inr ⟨kq_92, by omega⟩) ⟨_, _, _, rfl, rfl, hT29, hI29, hFm29, hG29, (Or.inl ⟨v28p.1, v28p.2.1, ⟨by omega, hof32⟩, ⟨_, _, v28p.2.2.2, by omega, pt_wrd (by omega)⟩⟩)⟩
        · refine s_lsw (t := 199) kx_92_101 (by decide) 659111367 hs7 (by decide) ?_
          have hwd := wd_of (s := s) (n := n) (p := p) (w := 659111367) (by omega) (by have := hA.2.2.2.2.2.2.2.2 (by omega) (by omega); omega)
          have hcd := cd_of (z := -3) hwd (by omega)
          refine s_aload_n kx_92_199 rfl ?_
          refine s_aload_n kx_92_200 rfl ?_
          refine s_bipush (v := (-3)) kx_92_201 (by decide) ?_
          refine s_callV2 (k := 4) (s1 := 3) (s2 := 0) (as := [(0, (-3)), rf f]) (rest := []) kx_92_203 kp_92_49 (Or.inl rfl) rfl (tk_4 hT) ki_93 kcl_93 rfl rfl (by decide) (f_93 (d := d + 1) (step := (-3)) (k := k) hT hI h50 hf hG hA (by omega) (by omega) (by omega)) (kG (fun v33 T34 M34 hT34 hI34 fr34 hG34 v33p => ?_))
          have hFm34 := hFm.call fr34 rfl
          have tr35 := rg_5_2 hI34
          have tr36 := rg_5_3 hI34
          have hof37 := OFp.trans (OFp.refl (M := M)) v33p.2.2.1.2
          exact s_iret kx_92_206 (Or.inr ⟨kq_92, by omega⟩) ⟨_, _, _, rfl, rfl, hT34, hI34, hFm34, hG34, (Or.inl ⟨v33p.1, v33p.2.1, ⟨by omega, hof37⟩, ⟨_, _, v33p.2.2.2, by omega, pt_wrd (by omega)⟩⟩)⟩
        · refine s_lsw (t := 184) kx_92_101 (by decide) 672503392 hs7 (by decide) ?_
          have hwd := wd_of (s := s) (n := n) (p := p) (w := 672503392) (by omega) (by have := hA.2.2.2.2.2.2.2.2 (by omega) (by omega); omega)
          have hcd := cd_of (z := -1) hwd (by omega)
          refine s_aload_n kx_92_184 rfl ?_
          refine s_aload_n kx_92_185 rfl ?_
          refine s_iconst (v := (-1)) kx_92_186 (by decide) ?_
          refine s_callV2 (k := 4) (s1 := 3) (s2 := 0) (as := [(0, (-1)), rf f]) (rest := []) kx_92_187 kp_92_49 (Or.inl rfl) rfl (tk_4 hT) ki_93 kcl_93 rfl rfl (by decide) (f_93 (d := d + 1) (step := (-1)) (k := k) hT hI h50 hf hG hA (by omega) (by omega) (by omega)) (kG (fun v38 T39 M39 hT39 hI39 fr39 hG39 v38p => ?_))
          have hFm39 := hFm.call fr39 rfl
          have tr40 := rg_5_2 hI39
          have tr41 := rg_5_3 hI39
          have hof42 := OFp.trans (OFp.refl (M := M)) v38p.2.2.1.2
          exact s_iret kx_92_190 (Or.inr ⟨kq_92, by omega⟩) ⟨_, _, _, rfl, rfl, hT39, hI39, hFm39, hG39, (Or.inl ⟨v38p.1, v38p.2.1, ⟨by omega, hof42⟩, ⟨_, _, v38p.2.2.2, by omega, pt_wrd (by omega)⟩⟩)⟩
        · refine s_lsw (t := 191) kx_92_101 (by decide) 777297172 hs7 (by decide) ?_
          have hwd := wd_of (s := s) (n := n) (p := p) (w := 777297172) (by omega) (by have := hA.2.2.2.2.2.2.2.2 (by omega) (by omega); omega)
          have hcd := cd_of (z := -2) hwd (by omega)
          refine s_aload_n kx_92_191 rfl ?_
          refine s_aload_n kx_92_192 rfl ?_
          refine s_bipush (v := (-2)) kx_92_193 (by decide) ?_
          refine s_callV2 (k := 4) (s1 := 3) (s2 := 0) (as := [(0, (-2)), rf f]) (rest := []) kx_92_195 kp_92_49 (Or.inl rfl) rfl (tk_4 hT) ki_93 kcl_93 rfl rfl (by decide) (f_93 (d := d + 1) (step := (-2)) (k := k) hT hI h50 hf hG hA (by omega) (by omega) (by omega)) (kG (fun v43 T44 M44 hT44 hI44 fr44 hG44 v43p => ?_))
          have hFm44 := hFm.call fr44 rfl
          have tr45 := rg_5_2 hI44
          have tr46 := rg_5_3 hI44
          have hof47 := OFp.trans (OFp.refl (M := M)) v43p.2.2.1.2
          exact s_iret kx_92_198 (Or.inr ⟨kq_92, by omega⟩) ⟨_, _, _, rfl, rfl, hT44, hI44, hFm44, hG44, (Or.inl ⟨v43p.1, v43p.2.1, ⟨by omega, hof47⟩, ⟨_, _, v43p.2.2.2, by omega, pt_wrd (by omega)⟩⟩)⟩
        · refine s_lsw (t := 207) kx_92_101 (by decide) 781325312 hs7 (by decide) ?_
          have hwd := wd_of (s := s) (n := n) (p := p) (w := 781325312) (by omega) (by have := hA.2.2.2.2.2.2.2.2 (by omega) (by omega); omega)
          have hcd := cd_of (z := -4) hwd (by omega)
          refine s_aload_n kx_92_207 rfl ?_
          refine s_aload_n kx_92_208 rfl ?_
          refine s_bipush (v := (-4)) kx_92_209 (by decide) ?_
          refine s_callV2 (k := 4) (s1 := 3) (s2 := 0) (as := [(0, (-4)), rf f]) (rest := []) kx_92_211 kp_92_49 (Or.inl rfl) rfl (tk_4 hT) ki_93 kcl_93 rfl rfl (by decide) (f_93 (d := d + 1) (step := (-4)) (k := k) hT hI h50 hf hG hA (by omega) (by omega) (by omega)) (kG (fun v48 T49 M49 hT49 hI49 fr49 hG49 v48p => ?_))
          have hFm49 := hFm.call fr49 rfl
          have tr50 := rg_5_2 hI49
          have tr51 := rg_5_3 hI49
          have hof52 := OFp.trans (OFp.refl (M := M)) v48p.2.2.1.2
          exact s_iret kx_92_214 (Or.inr ⟨kq_92, by omega⟩) ⟨_, _, _, rfl, rfl, hT49, hI49, hFm49, hG49, (Or.inl ⟨v48p.1, v48p.2.1, ⟨by omega, hof52⟩, ⟨_, _, v48p.2.2.2, by omega, pt_wrd (by omega)⟩⟩)⟩
        · refine s_lswD (t := 256) kx_92_101 (by decide) (by simpa using hs7) (by decide) ?_
          refine s_aload_n kx_92_256 rfl ?_
          refine r_getR (k := 4) (f := 0) (k2 := 5) kx_92_257 kp_92_12 (tk_4 hT) kf_7_0 (by decide) (rq_4_0 hI) ?_
          refine s_callV2 (k := 5) (s1 := 1) (s2 := 0) (as := []) (rest := []) kx_92_260 kp_92_62 (Or.inl rfl) rfl (tk_5 hT) ki_21 kcl_21 rfl rfl (by decide) (f_21 (d := d + 3) hT hI) (kW (fun v53 M54 hI54 fr54 v53p => ?_))
          have hFm54 := hFm.call fr54 rfl
          have tr55 := (fr54 5 2 rfl)
          have tr56 := (fr54 5 3 rfl)
          have tr57 := (fr54 f 2 (by rcases hf with rfl | rfl | rfl | rfl <;> rfl))
          have tr58 := rg_5_2 hI54
          have tr59 := rg_5_3 hI54
          exact s_iret kx_92_263 (Or.inr ⟨kq_92, by omega⟩) ⟨_, _, _, rfl, rfl, hT, hI54, hFm54, (Gm.fr hG fr54 rfl), (Or.inr ⟨by omega, ⟨by omega, (OFp.fr (OFp.refl (M := M)) fr54 rfl)⟩, SumX.un (LxA.un hA (by omega) v53p.2.2) h0 (pt_none (by omega) (by omega) (fun g => by have := hA.2.2.2.2.2.2.2.2 (by omega) (by omega); omega))⟩)⟩
      · refine s_aload_n kx_92_86 rfl ?_
        refine r_getR (k := 4) (f := 0) (k2 := 5) kx_92_87 kp_92_12 (tk_4 hT) kf_7_0 (by decide) (rq_4_0 hI) ?_
        refine s_callV2 (k := 5) (s1 := 1) (s2 := 0) (as := []) (rest := []) kx_92_90 kp_92_62 (Or.inl rfl) rfl (tk_5 hT) ki_21 kcl_21 rfl rfl (by decide) (f_21 (d := d + 3) hT hI) (kW (fun v60 M61 hI61 fr61 v60p => ?_))
        have hFm61 := hFm.call fr61 rfl
        have tr62 := (fr61 5 2 rfl)
        have tr63 := (fr61 5 3 rfl)
        have tr64 := (fr61 f 2 (by rcases hf with rfl | rfl | rfl | rfl <;> rfl))
        have tr65 := rg_5_2 hI61
        have tr66 := rg_5_3 hI61
        exact s_iret kx_92_93 (Or.inr ⟨kq_92, by omega⟩) ⟨_, _, _, rfl, rfl, hT, hI61, hFm61, (Gm.fr hG fr61 rfl), (Or.inr ⟨by omega, ⟨by omega, (OFp.fr (OFp.refl (M := M)) fr61 rfl)⟩, SumX.un (LxA.un hA (by omega) v60p.2.2) h0 (pt_none (by omega) (by omega) (fun g => absurd g (by omega)))⟩)⟩
    · replace v3p := v3p.resolve_right (by omega)
      have hg40 : owG s n p 40 = 1 := by omega
      refine s_aload_n kx_92_36 rfl ?_
      refine s_bipush (v := 40) kx_92_37 (by decide) ?_
      refine s_iload_n kx_92_39 rfl ?_
      refine s_callV2 (k := 4) (s1 := 3) (s2 := 0) (as := [(0, o), (0, 40)]) (rest := []) kx_92_40 kp_92_52 (Or.inl rfl) rfl (tk_4 hT) ki_101 kcl_101 rfl rfl (by decide) (f_101 (d := d + 1) (c := 40) (o := o) hT hI h50 hA (by omega)) (kW (fun v67 M68 hI68 fr68 v67p => ?_))
      have hFm68 := hFm.call fr68 rfl
      have tr69 := (fr68 f 2 (by rcases hf with rfl | rfl | rfl | rfl <;> rfl))
      have tr70 := rg_5_2 hI68
      have tr71 := rg_5_3 hI68
      refine s_if_eq (t := 73) kx_92_43 (by decide) (fun hc72 => ?_) (fun hc72 => ?_)
      · replace v67p := v67p.resolve_left (by omega)
        have hx73 : SumX M68 (fun g => PtX s n o p g) := (v67p.2.2.mono (fun g z => z.elim (fun a => absurd a.1 (by omega)) (fun a => by rw [a.2.2]; exact pt_x5 a.1 (by omega))))
        refine s_iconst (v := 0) kx_92_73 (by decide) ?_
        exact s_iret kx_92_74 (Or.inr ⟨kq_92, by omega⟩) ⟨_, _, _, rfl, rfl, hT, hI68, hFm68, (Gm.fr hG fr68 rfl), (Or.inr ⟨rfl, ⟨by omega, (OFp.fr (OFp.refl (M := M)) fr68 rfl)⟩, hx73⟩)⟩
      · replace v67p := v67p.resolve_right (by omega)
        refine s_aload_n kx_92_46 rfl ?_
        refine s_aload_n kx_92_47 rfl ?_
        refine s_iload_n kx_92_48 rfl ?_
        refine s_iconst (v := 1) kx_92_49 (by decide) ?_
        refine r_add kx_92_50 ⟨by omega, by omega⟩ ?_
        refine s_callV2 (k := 4) (s1 := 3) (s2 := 0) (as := [(0, (o + 1)), rf f]) (rest := []) kx_92_51 kp_92_56 (Or.inl rfl) rfl (tk_4 hT) ki_89 kcl_89 rfl rfl (by decide) (cC.deep ((hL (by omega)).1 (k := k) hT hI68 ((fr68 5 0 rfl).trans h50) hf (Gm.fr hG fr68 rfl) v67p.2.2.2.2.2 (by omega) (by omega)) (by omega)) (kG (fun v74 T75 M75 hT75 hI75 fr75 hG75 v74p => ?_))
        have hFm75 := hFm68.call fr75 rfl
        have tr76 := rg_5_2 hI75
        have tr77 := rg_5_3 hI75
        have hof78 := OFp.trans (OFp.fr (OFp.refl (M := M)) fr68 rfl) (v74p.elim (fun z => z.2.2.1.2) (fun z => z.2.1.2))
        refine s_if_eq (t := 73) kx_92_54 (by decide) (fun hc79 => ?_) (fun hc79 => ?_)
        · replace v74p := v74p.resolve_left (by omega)
          have hx80 : SumX M75 (fun g => PtX s n o p g) := (v74p.2.2.mono (fun g z => pt_xs hg40 (by omega) z))
          refine s_iconst (v := 0) kx_92_73 (by decide) ?_
          exact s_iret kx_92_74 (Or.inr ⟨kq_92, by omega⟩) ⟨_, _, _, rfl, rfl, hT75, hI75, hFm75, hG75, (Or.inr ⟨rfl, ⟨by omega, hof78⟩, hx80⟩)⟩
        · replace v74p := v74p.resolve_right (by omega)
          obtain ⟨c1, q1, q1l, q1p, q1o⟩ := v74p.2.2.2
          have q1b := q1l.2.1
          have q1c := q1l.2.2.1
          have q1d := q1l.2.2.2.1
          have q1e := q1l.2.2.2.2.1
          have q1f := q1l.2.2.2.2.2.1
          refine s_aload_n kx_92_57 rfl ?_
          refine r_getR (k := 4) (f := 0) (k2 := 5) kx_92_58 kp_92_12 (tk_4 hT75) kf_7_0 (by decide) (rq_4_0 hI75) ?_
          refine s_bipush (v := 41) kx_92_61 (by decide) ?_
          refine s_callV2 (k := 5) (s1 := 2) (s2 := 0) (as := [(0, 41)]) (rest := []) kx_92_63 kp_92_59 (Or.inl rfl) rfl (tk_5 hT75) ki_24 kcl_24 rfl rfl (by decide) (f_24 (d := d + 1) (c := 41) hT75 hI75 ((fr75 5 0 rfl).trans ((fr68 5 0 rfl).trans h50)) q1l) (kW (fun v81 M82 hI82 fr82 v81p => ?_))
          have hFm82 := hFm75.call fr82 rfl
          have tr83 := (fr82 f 2 (by rcases hf with rfl | rfl | rfl | rfl <;> rfl))
          have tr84 := rg_5_2 hI82
          have tr85 := rg_5_3 hI82
          refine s_if_eq (t := 73) kx_92_66 (by decide) (fun hc86 => ?_) (fun hc86 => ?_)
          · replace v81p := v81p.resolve_left (by omega)
            have hx87 : SumX M82 (fun g => PtX s n o p g) := (SumX.un v81p.2.2.1 (by omega) (pt_xc hg40 (by omega) q1o.1 q1o.2 (by omega)))
            refine s_iconst (v := 0) kx_92_73 (by decide) ?_
            exact s_iret kx_92_74 (Or.inr ⟨kq_92, by omega⟩) ⟨_, _, _, rfl, rfl, hT75, hI82, hFm82, (Gm.fr hG75 fr82 rfl), (Or.inr ⟨rfl, ⟨by omega, (OFp.fr hof78 fr82 rfl)⟩, hx87⟩)⟩
          · replace v81p := v81p.resolve_right (by omega)
            have ho88 : SumO M82 s n p 0 (fun c q => PtOk s n o p c q) := ⟨_, _, v81p.2.2.1, by omega, pt_par hg40 (by omega) q1o.1 (by omega)⟩
            refine s_iconst (v := 1) kx_92_69 (by decide) ?_
            refine s_goto (t := 74) kx_92_70 (by decide) ?_
            exact s_iret kx_92_74 (Or.inr ⟨kq_92, by omega⟩) ⟨_, _, _, rfl, rfl, hT75, hI82, hFm82, (Gm.fr hG75 fr82 rfl), (Or.inl ⟨rfl, ⟨by omega, by omega⟩, ⟨by omega, (OFp.fr hof78 fr82 rfl)⟩, ho88⟩)⟩
  · refine s_aload_n kx_92_11 rfl ?_
    refine s_aload_n kx_92_12 rfl ?_
    refine s_aload_n kx_92_13 rfl ?_
    refine r_getR (k := 4) (f := 0) (k2 := 5) kx_92_14 kp_92_12 (tk_4 hT) kf_7_0 (by decide) (rq_4_0 hI) ?_
    refine r_getU (k := 5) (f := 4) kx_92_17 kp_92_46 (tk_5 hT) kf_3_4 (fun _ => rfl) (fun v89 v89e => ?_)
    refine s_callV2 (k := 4) (s1 := 3) (s2 := 0) (as := [(0, v89), rf f]) (rest := []) kx_92_20 kp_92_49 (Or.inl rfl) rfl (tk_4 hT) ki_93 kcl_93 rfl rfl (by decide) (f_93 (d := d + 1) (step := v89) (k := k) hT hI h50 hf hG hA (by omega) (by omega) (by omega)) (kG (fun v90 T91 M91 hT91 hI91 fr91 hG91 v90p => ?_))
    have hFm91 := hFm.call fr91 rfl
    have tr92 := rg_5_2 hI91
    have tr93 := rg_5_3 hI91
    have hof94 := OFp.trans (OFp.refl (M := M)) v90p.2.2.1.2
    exact s_iret kx_92_23 (Or.inr ⟨kq_92, by omega⟩) ⟨_, _, _, rfl, rfl, hT91, hI91, hFm91, hG91, (Or.inl ⟨v90p.1, v90p.2.1, ⟨by omega, hof94⟩, ⟨_, _, v90p.2.2.2, by omega, pt_num (by omega)⟩⟩)⟩
