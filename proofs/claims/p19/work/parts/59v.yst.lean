def StR (M : cM) (s : Nat → Int) (n ci : Int) (D : cM) (q : Int) : Prop := (∃ f, f ≠ 0 ∧ FlY M f ∧ ∀ D2 q2, FinR s n D q f D2 q2) ∨ (M 63 9 = 0 ∧ ∃ D1 q1, LyA M s n q1 ∧ (RSD M D1 ∧ CDR ci M D1) ∧ DW D1 ∧ (owG s n q1 59 = 1 → FinR s n D q 0 D1 (owE s n q1)) ∧ (owG s n q1 59 = 0 → ∀ D2 q2, FinR s n D q (owU s n q1) D2 q2))
section YV
variable {M M1 D : cM} {s : Nat → Int} {n f q ci : Int}
theorem st_y {F P : Int} {D' : cM} (hs : owStF s n D q = F ∧ owStP s n q = P ∧ owStD s n D q = D' ∧ ¬ owW s n q 650632192 = 1 ∧ ¬ owW s n q 658552979 = 1) (hY : Yst M s n F P) (hR : F = 0 → RSD M D') (hD : F = 0 → DW D') (hC : CDR ci M D) : StR M s n ci D q := by
  rcases hY with ⟨h1, h2⟩ | ⟨h1, h2, h3⟩
  · exact Or.inl ⟨F, h1, h2, fun D2 q2 => fin_x (w := 0) hs h1⟩
  · exact Or.inr ⟨h2, D', P, h3, ⟨hR h1, hC.dd fun j f hj => by rw [← hs.2.2.1]; exact owSt_k hj⟩, hD h1, fin_ok hs h1 h3.2.2.1⟩
theorem st_s {j : Nat} (hj : (j = 11 ∧ owW s n q 650632192 = 1) ∨ (j = 12 ∧ owW s n q 658552979 = 1)) (hW : DW D) (hq : 0 ≤ q ∧ q ≤ n) (h : (D j 0 ≠ 0 ∧ (60000 + owB s n q ≠ 0 ∧ FlY M (60000 + owB s n q))) ∨ (D j 0 = 0 ∧ RsX M s n (owE s n q) (fun c => CDR ci M (owFg D j c)) ∧ (M 63 9 = 0 → ∀ c, RSD M (owFg D j c)))) : StR M s n ci D q := by
  rcases h with ⟨h1, h2⟩ | ⟨h1, h2, h3⟩
  · exact Or.inl ⟨_, h2.1, h2.2, fun D2 q2 => fin_sum6 hj h1⟩
  · rcases h2 with ⟨f, a1, a2, a3⟩ | ⟨a1, q1, c, a2, a3, a4⟩
    · refine Or.inl ⟨f, a1, a2, fun D2 q2 => ?_⟩
      rw [fin_sum hj]
      unfold SumR
      rw [if_neg (by omega)]
      exact Or.inl ⟨a1, a3⟩
    · refine Or.inr ⟨a1, owFg D j c, q1, a2, ⟨h3 a1 c, a4⟩, DW_fl hW (by omega), fun g => ?_, fun g D2 q2 => ?_⟩
      · rw [fin_sum hj]
        unfold SumR
        rw [if_neg (by omega)]
        exact Or.inr ⟨q1, c, a3, Or.inr ⟨g, rfl, rfl, rfl⟩⟩
      · have := owU_pos (s := s) (n := n) a2.2.2.1
        rw [fin_sum hj]
        unfold SumR
        rw [if_neg (by omega)]
        exact Or.inr ⟨q1, c, a3, Or.inl ⟨g, rfl, by omega⟩⟩
theorem st_lx (hq : 0 ≤ q) (h : Yst M s n (yLx s n 0 q) q) (hp : M 63 9 ≠ 0) : StR M s n ci D q := by
  have h1 := h.pos hp
  have h5 : owK s n q = 5 := Decidable.byContradiction fun g => h1.1 (by unfold yLx; rw [if_neg (by decide), if_neg g])
  have e : yLx s n 0 q = owU s n q := by unfold yLx; rw [if_neg (by decide), if_pos h5, owU5 h5]
  rw [e] at h1
  exact Or.inl ⟨_, h1.1, h1.2, fun D2 q2 => fin_none hq (fun w _ g => by have := owW_Kn g; omega)⟩
theorem st_un {x : Int} (hq : 0 ≤ q) (h5 : owK s n q ≠ 5) (hw : ∀ w, (w = 620213248 ∨ w = 773619712 ∨ w = 542723566 ∨ w = 351582372 ∨ w = 86148467 ∨ w = 1 ∨ w = 650632192 ∨ w = 658552979) → ¬ owW s n q w = 1) (h9 : M 63 9 = 1) (h10 : M 63 10 = owB s n q) (hx : 0 ≤ owB s n q ∧ owB s n q < 10000) : StR M s n ci D q := by
  have e : owU s n q = 10000 * 1 + owB s n q := by unfold owU; rw [if_neg h5]; omega
  refine Or.inl ⟨owU s n q, by omega, ?_, fun D2 q2 => fin_none hq hw⟩
  rw [e]
  exact FlY.mk h9 h10 (by decide) hx
end YV
def gS_214_m : List (Nat × Nat) := [(63, 10), (63, 13), (63, 3), (63, 35), (63, 4), (63, 42), (63, 43), (63, 45), (63, 46), (63, 5), (63, 6), (63, 7), (63, 8), (63, 9), (65, 99999), (66, 99999), (67, 99999), (68, 99999), (69, 99999), (70, 99999), (71, 99999), (72, 99999), (73, 99999), (74, 99999), (75, 99999), (76, 99999), (77, 99999), (78, 99999), (79, 99999), (80, 99999), (81, 99999), (82, 99999), (83, 99999), (84, 99999), (85, 99999), (86, 99999), (87, 99999), (88, 99999), (89, 99999), (90, 99999)]
theorem f_214 {xs : Nat → Int} {Ln d : Nat} {T : List cK} {M : cM} (hT : TT T) (hI : Rng M) (hX : LXp M) {s : Nat → Int} {n q : Int} {D : cM} (hY : Yst M s n 0 q) (hn : n ≤ 1600) (hR : RSD M D) (hW : DW D) (hS : TSg M) {ci : Int} (hci : ci = M 63 36) (hCD : CDR ci M D) {bX : Int} {WX : cM} (hKX : KB bX WX M) (p0 : M 63 35 ≤ M 63 4) : cC k_P xs Ln (d + 6) 214 [rf 63] (T, M) (qV T M gS_214_m (fun M1 => (LXp M1 ∧ M 63 4 ≤ M1 63 4 ∧ M 63 9 ≤ M1 63 9 ∧ (SLd M M1 ∧ KO M M1) ∧ (StR M1 s n ci D q)) ∧ KB bX WX M1)) := by
  show cP k_P xs Ln (d + 6) 214 0 [(0, rf 63)] [] (T, M) _
  have hFm : Fr gS_214_m M M := Fr.refl
  have h639 := rg_63_9 hI
  have ⟨lx1, lx2⟩ := hX
  have hkx1 := hKX.1
  have hkx2 := hKX.2.1
  have hkx3 := hKX.2.2.1
  refine s_aload_n kx_214_0 rfl ?_
  refine s_callV2 (k := 63) (s1 := 1) (s2 := 0) (as := []) (rest := []) kx_214_1 kp_214_280 (Or.inl rfl) rfl (tk_63 hT) ki_179 kcl_179 rfl rfl (by decide) (f_179 (d := d + 4) hT hI hY hn) (kV (fun M2 hI2 fr2 v1p => ?_))
  have hFm2 := hFm.call fr2 rfl
  have tr3 := (fr2 63 3 rfl)
  have tr4 := (fr2 63 4 rfl)
  have tr5 := (fr2 63 5 rfl)
  have tr6 := (fr2 63 35 rfl)
  have tr7 := (fr2 63 36 rfl)
  have tr8 := rg_63_9 hI2
  refine s_aload_n kx_214_4 rfl ?_
  refine r_getI (k := 63) (f := 9) kx_214_5 kp_214_39 (tk_63 hT) kf_12_9 (fun _ => rfl) (rg_63_9 hI2) (fun v9 v9e v9a v9b => ?_)
  refine s_if_le (t := 12) kx_214_8 (by decide) (fun hc10 => ?_) (fun hc10 => ?_)
  · have hz := Yst.zero v1p.1 (by omega)
    have hzk := yLx_0 hz.1 hz.2.2.2.1
    have hzb := hz.2.b hn
    have hzq := hz.2.2.2.1
    have hzn := hz.2.2.2.2.1
    have hys0 : Yst M2 s n 0 q := Or.inr ⟨rfl, by omega, hz.2⟩
    refine s_aload_n kx_214_12 rfl ?_
    refine s_ldc2_w kx_214_13 kp_214_289 ?_
    refine s_callV2 (k := 63) (s1 := 3) (s2 := 0) (as := [(1, 1919905645)]) (rest := []) kx_214_16 kp_214_361 (Or.inl rfl) rfl (tk_63 hT) ki_182 kcl_182 rfl rfl (by decide) (f_182 (d := d + 5) (w := 1919905645) hT hI2 hz.2 hzk.2 (w5 := 620213248) n58_room (Or.inr (by decide)) (by omega)) (kF (fun v11 v11p => ?_))
    refine s_if_eq (t := 29) kx_214_19 (by decide) (fun hc12 => ?_) (fun hc12 => ?_)
    · replace v11p := v11p.resolve_left (by omega)
      refine s_aload_n kx_214_29 rfl ?_
      refine s_ldc2_w kx_214_30 kp_214_295 ?_
      refine s_callV2 (k := 63) (s1 := 3) (s2 := 0) (as := [(1, 7823737)]) (rest := []) kx_214_33 kp_214_361 (Or.inl rfl) rfl (tk_63 hT) ki_182 kcl_182 rfl rfl (by decide) (f_182 (d := d + 5) (w := 7823737) hT hI2 hz.2 hzk.2 (w5 := 773619712) n58_way (Or.inr (by decide)) (by omega)) (kF (fun v13 v13p => ?_))
      refine s_if_eq (t := 46) kx_214_36 (by decide) (fun hc14 => ?_) (fun hc14 => ?_)
      · replace v13p := v13p.resolve_left (by omega)
        refine s_aload_n kx_214_46 rfl ?_
        refine s_ldc2_w kx_214_47 kp_214_299 ?_
        refine s_callV2 (k := 63) (s1 := 3) (s2 := 0) (as := [(1, 123581014175598)]) (rest := []) kx_214_50 kp_214_361 (Or.inl rfl) rfl (tk_63 hT) ki_182 kcl_182 rfl rfl (by decide) (f_182 (d := d + 5) (w := 123581014175598) hT hI2 hz.2 hzk.2 (w5 := 542723566) n58_person (Or.inr (by decide)) (by omega)) (kF (fun v15 v15p => ?_))
        refine s_if_eq (t := 63) kx_214_53 (by decide) (fun hc16 => ?_) (fun hc16 => ?_)
        · replace v15p := v15p.resolve_left (by omega)
          refine s_aload_n kx_214_63 rfl ?_
          refine s_ldc2_w kx_214_64 kp_214_309 ?_
          refine s_callV2 (k := 63) (s1 := 3) (s2 := 0) (as := [(1, 117026742756708)]) (rest := []) kx_214_67 kp_214_361 (Or.inl rfl) rfl (tk_63 hT) ki_182 kcl_182 rfl rfl (by decide) (f_182 (d := d + 5) (w := 117026742756708) hT hI2 hz.2 hzk.2 (w5 := 351582372) n58_joined (Or.inr (by decide)) (by omega)) (kF (fun v17 v17p => ?_))
          refine s_if_eq (t := 80) kx_214_70 (by decide) (fun hc18 => ?_) (fun hc18 => ?_)
          · replace v17p := v17p.resolve_left (by omega)
            refine s_aload_n kx_214_80 rfl ?_
            refine s_ldc2_w kx_214_81 kp_214_311 ?_
            refine s_callV2 (k := 63) (s1 := 3) (s2 := 0) (as := [(1, 1936486263)]) (rest := []) kx_214_84 kp_214_361 (Or.inl rfl) rfl (tk_63 hT) ki_182 kcl_182 rfl rfl (by decide) (f_182 (d := d + 5) (w := 1936486263) hT hI2 hz.2 hzk.2 (w5 := 650632192) n58_slow (Or.inr (by decide)) (by omega)) (kF (fun v19 v19p => ?_))
            refine s_if_eq (t := 97) kx_214_87 (by decide) (fun hc20 => ?_) (fun hc20 => ?_)
            · replace v19p := v19p.resolve_left (by omega)
              refine s_aload_n kx_214_97 rfl ?_
              refine s_ldc2_w kx_214_98 kp_214_313 ?_
              refine s_callV2 (k := 63) (s1 := 3) (s2 := 0) (as := [(1, 126943688025203)]) (rest := []) kx_214_101 kp_214_361 (Or.inl rfl) rfl (tk_63 hT) ki_182 kcl_182 rfl rfl (by decide) (f_182 (d := d + 5) (w := 126943688025203) hT hI2 hz.2 hzk.2 (w5 := 658552979) n58_stands (Or.inr (by decide)) (by omega)) (kF (fun v21 v21p => ?_))
              refine s_if_eq (t := 114) kx_214_104 (by decide) (fun hc22 => ?_) (fun hc22 => ?_)
              · replace v21p := v21p.resolve_left (by omega)
                refine s_aload_n kx_214_114 rfl ?_
                refine s_ldc2_w kx_214_115 kp_214_315 ?_
                refine s_callV2 (k := 63) (s1 := 3) (s2 := 0) (as := [(1, 108243466677107)]) (rest := []) kx_214_118 kp_214_361 (Or.inl rfl) rfl (tk_63 hT) ki_182 kcl_182 rfl rfl (by decide) (f_182 (d := d + 5) (w := 108243466677107) hT hI2 hz.2 hzk.2 (w5 := 86148467) n58_breaks (Or.inr (by decide)) (by omega)) (kF (fun v23 v23p => ?_))
                refine s_if_eq (t := 131) kx_214_121 (by decide) (fun hc24 => ?_) (fun hc24 => ?_)
                · replace v23p := v23p.resolve_left (by omega)
                  refine s_aload_n kx_214_131 rfl ?_
                  refine s_lconst (v := 1) kx_214_132 (by decide) ?_
                  refine s_callV2 (k := 63) (s1 := 3) (s2 := 0) (as := [(1, 1)]) (rest := []) kx_214_133 kp_214_361 (Or.inl rfl) rfl (tk_63 hT) ki_182 kcl_182 rfl rfl (by decide) (f_182 (d := d + 5) (w := 1) hT hI2 hz.2 hzk.2 (w5 := 1) n58_carp (Or.inl rfl) (by omega)) (kF (fun v25 v25p => ?_))
                  refine s_if_eq (t := 146) kx_214_136 (by decide) (fun hc26 => ?_) (fun hc26 => ?_)
                  · replace v25p := v25p.resolve_left (by omega)
                    refine s_aload_n kx_214_146 rfl ?_
                    refine s_iconst (v := 1) kx_214_147 (by decide) ?_
                    refine s_aload_n kx_214_148 rfl ?_
                    refine r_getI (k := 63) (f := 4) kx_214_149 kp_214_23 (tk_63 hT) kf_12_4 (fun _ => rfl) (rg_63_4 hI2) (fun v27 v27e v27a v27b => ?_)
                    have v27z : M 63 4 = v27 := ((fr2 63 4 rfl)).symm.trans v27e
                    refine s_callV2 (k := 63) (s1 := 3) (s2 := 0) (as := [(0, v27), (0, 1)]) (rest := []) kx_214_152 kp_214_263 (Or.inl rfl) rfl (tk_63 hT) ki_176 kcl_176 rfl rfl (by decide) (f_176 (d := d + 5) (kind := 1) (place := v27) hT hI2 (by omega)) (kV (fun M29 hI29 fr29 v28p => ?_))
                    have hFm29 := hFm2.call fr29 rfl
                    have tr30 := (fr29 63 3 rfl)
                    have tr31 := (fr29 63 4 rfl)
                    have tr32 := (fr29 63 5 rfl)
                    have tr33 := (fr29 63 35 rfl)
                    have tr34 := (fr29 63 36 rfl)
                    have tr35 := rg_63_9 hI29
                    have hk36 : M29 63 4 = v27 := ((fr29 63 4 rfl).trans v27e)
                    exact s_vret kx_214_155 kq_214 ⟨_, rfl, rfl, hI29, hFm29, ⟨⟨(LXp.fr (LXp.fr hX fr2 rfl) fr29 rfl), (by omega), (by omega), ⟨Or.inl (by omega), (KO.fr (KO.fr (KO.refl (M := M)) fr2 rfl) fr29 rfl)⟩, (st_un (x := 0) hzq hzk.2 (fun w hw => by rcases hw with rfl | rfl | rfl | rfl | rfl | rfl | rfl | rfl <;> omega) (by omega) (by omega) (by omega))⟩, (KB.fr (KB.fr hKX fr2 rfl) fr29 rfl)⟩⟩
                  · replace v25p := v25p.resolve_right (by omega)
                    refine s_aload_n kx_214_139 rfl ?_
                    refine s_callV2 (k := 63) (s1 := 1) (s2 := 0) (as := []) (rest := []) kx_214_140 kp_214_435 (Or.inl rfl) rfl (tk_63 hT) ki_213 kcl_213 rfl rfl (by decide) (f_213 (d := d + 1) hT hI2 (LXp.fr hX fr2 rfl) hys0 hn (RSD.fr hR fr2 rfl) hW  (KB.fr hKX fr2 rfl) (by omega)) (kV (fun M38 hI38 fr38 v37p => ?_))
                    have hFm38 := hFm2.call fr38 rfl
                    have tr39 := (fr38 63 35 rfl)
                    have tr40 := (fr38 63 36 rfl)
                    have tr41 := rg_63_9 hI38
                    have v37pk := v37p.2
                    (replace v37p := v37p.1)
                    refine s_goto (t := 155) kx_214_143 (by decide) ?_
                    exact s_vret kx_214_155 kq_214 ⟨_, rfl, rfl, hI38, hFm38, ⟨⟨v37p.1, (by omega), (by omega), ⟨SLd.of v37p.2.2.2.1 (by omega) (TSg.fr (TSg.fr hS (rg_63_36 hI).1 fr2 rfl) (rg_63_36 hI2).1 fr38 rfl) (by omega), (KO.fr (KO.fr (KO.refl (M := M)) fr2 rfl) fr38 rfl)⟩, (st_y (st_sel (D := D) (w := 1) (by omega) (Or.inr (Or.inr (Or.inr (Or.inr (Or.inr (⟨rfl, rfl, rfl, rfl⟩))))))) v37p.2.2.2.2.1 v37p.2.2.2.2.2 (fun z => DW_ca hW ⟨hzq, hzn⟩ z) (CDR.fr (CDR.fr hCD fr2 rfl) fr38 rfl))⟩, v37pk⟩⟩
                · replace v23p := v23p.resolve_right (by omega)
                  refine s_aload_n kx_214_124 rfl ?_
                  refine s_callV2 (k := 63) (s1 := 1) (s2 := 0) (as := []) (rest := []) kx_214_125 kp_214_432 (Or.inl rfl) rfl (tk_63 hT) ki_212 kcl_212 rfl rfl (by decide) (f_212 (d := d + 2) hT hI2 (LXp.fr hX fr2 rfl) hys0 hn (RSD.fr hR fr2 rfl) hW  (KB.fr hKX fr2 rfl) (by omega) (by omega)) (kV (fun M43 hI43 fr43 v42p => ?_))
                  have hFm43 := hFm2.call fr43 rfl
                  have tr44 := (fr43 63 35 rfl)
                  have tr45 := (fr43 63 36 rfl)
                  have tr46 := rg_63_9 hI43
                  have v42pk := v42p.2
                  (replace v42p := v42p.1)
                  refine s_goto (t := 155) kx_214_128 (by decide) ?_
                  exact s_vret kx_214_155 kq_214 ⟨_, rfl, rfl, hI43, hFm43, ⟨⟨v42p.1, (by omega), (by omega), ⟨SLd.of v42p.2.2.2.1 (by omega) (TSg.fr (TSg.fr hS (rg_63_36 hI).1 fr2 rfl) (rg_63_36 hI2).1 fr43 rfl) (by omega), (KO.fr (KO.fr (KO.refl (M := M)) fr2 rfl) fr43 rfl)⟩, (st_y (st_sel (D := D) (w := 86148467) (by omega) (Or.inr (Or.inr (Or.inr (Or.inr (Or.inl ⟨rfl, rfl, rfl, rfl⟩)))))) v42p.2.2.2.2.1 v42p.2.2.2.2.2 (fun z => DW_0 hW rfl) (CDR.fr (CDR.fr hCD fr2 rfl) fr43 rfl))⟩, v42pk⟩⟩
              · replace v21p := v21p.resolve_right (by omega)
                refine s_aload_n kx_214_107 rfl ?_
                refine s_callV2 (k := 63) (s1 := 1) (s2 := 0) (as := []) (rest := []) kx_214_108 kp_214_429 (Or.inl rfl) rfl (tk_63 hT) ki_211 kcl_211 rfl rfl (by decide) (f_211 (d := d) hT hI2 (LXp.fr hX fr2 rfl) hys0 hn (RSD.fr hR fr2 rfl) (TSg.fr hS (rg_63_36 hI).1 fr2 rfl) (by omega) (CDR.fr hCD fr2 rfl)  (KB.fr hKX fr2 rfl) (by omega) (by omega)) (kV (fun M48 hI48 fr48 v47p => ?_))
                have hFm48 := hFm2.call fr48 rfl
                have tr49 := (fr48 63 36 rfl)
                have tr50 := rg_63_9 hI48
                have v47pk := v47p.2
                (replace v47p := v47p.1)
                have hO51 := KO.trans (KO.fr (KO.refl (M := M)) fr2 rfl) (fr2 63 36 rfl) v47p.2.2.2.1.2
                refine s_goto (t := 155) kx_214_111 (by decide) ?_
                exact s_vret kx_214_155 kq_214 ⟨_, rfl, rfl, hI48, hFm48, ⟨⟨v47p.1, (by omega), (by omega), ⟨SLd.mono v47p.2.2.2.1.1 (by omega), hO51⟩, (st_s (Or.inr ⟨rfl, by omega⟩) hW ⟨hzq, hzn⟩ v47p.2.2.2.2)⟩, v47pk⟩⟩
            · replace v19p := v19p.resolve_right (by omega)
              refine s_aload_n kx_214_90 rfl ?_
              refine s_callV2 (k := 63) (s1 := 1) (s2 := 0) (as := []) (rest := []) kx_214_91 kp_214_426 (Or.inl rfl) rfl (tk_63 hT) ki_210 kcl_210 rfl rfl (by decide) (f_210 (d := d) hT hI2 (LXp.fr hX fr2 rfl) hys0 hn (RSD.fr hR fr2 rfl) (TSg.fr hS (rg_63_36 hI).1 fr2 rfl) (by omega) (CDR.fr hCD fr2 rfl)  (KB.fr hKX fr2 rfl) (by omega) (by omega)) (kV (fun M53 hI53 fr53 v52p => ?_))
              have hFm53 := hFm2.call fr53 rfl
              have tr54 := (fr53 63 36 rfl)
              have tr55 := rg_63_9 hI53
              have v52pk := v52p.2
              (replace v52p := v52p.1)
              have hO56 := KO.trans (KO.fr (KO.refl (M := M)) fr2 rfl) (fr2 63 36 rfl) v52p.2.2.2.1.2
              refine s_goto (t := 155) kx_214_94 (by decide) ?_
              exact s_vret kx_214_155 kq_214 ⟨_, rfl, rfl, hI53, hFm53, ⟨⟨v52p.1, (by omega), (by omega), ⟨SLd.mono v52p.2.2.2.1.1 (by omega), hO56⟩, (st_s (Or.inl ⟨rfl, by omega⟩) hW ⟨hzq, hzn⟩ v52p.2.2.2.2)⟩, v52pk⟩⟩
          · replace v17p := v17p.resolve_right (by omega)
            refine s_aload_n kx_214_73 rfl ?_
            refine s_callV2 (k := 63) (s1 := 1) (s2 := 0) (as := []) (rest := []) kx_214_74 kp_214_423 (Or.inl rfl) rfl (tk_63 hT) ki_209 kcl_209 rfl rfl (by decide) (f_209 (d := d + 1) hT hI2 (LXp.fr hX fr2 rfl) hys0 hn (RSD.fr hR fr2 rfl) hW  (KB.fr hKX fr2 rfl) (by omega)) (kV (fun M58 hI58 fr58 v57p => ?_))
            have hFm58 := hFm2.call fr58 rfl
            have tr59 := (fr58 63 35 rfl)
            have tr60 := (fr58 63 36 rfl)
            have tr61 := rg_63_9 hI58
            have v57pk := v57p.2
            (replace v57p := v57p.1)
            refine s_goto (t := 155) kx_214_77 (by decide) ?_
            exact s_vret kx_214_155 kq_214 ⟨_, rfl, rfl, hI58, hFm58, ⟨⟨v57p.1, (by omega), (by omega), ⟨SLd.of v57p.2.2.2.1 (by omega) (TSg.fr (TSg.fr hS (rg_63_36 hI).1 fr2 rfl) (rg_63_36 hI2).1 fr58 rfl) (by omega), (KO.fr (KO.fr (KO.refl (M := M)) fr2 rfl) fr58 rfl)⟩, (st_y (st_sel (D := D) (w := 351582372) (by omega) (Or.inr (Or.inr (Or.inr (Or.inl ⟨rfl, rfl, rfl, rfl⟩))))) v57p.2.2.2.2.1 v57p.2.2.2.2.2 (fun z => DW_jo hW ⟨hzq, hzn⟩ z) (CDR.fr (CDR.fr hCD fr2 rfl) fr58 rfl))⟩, v57pk⟩⟩
        · replace v15p := v15p.resolve_right (by omega)
          refine s_aload_n kx_214_56 rfl ?_
          refine s_callV2 (k := 63) (s1 := 1) (s2 := 0) (as := []) (rest := []) kx_214_57 kp_214_420 (Or.inl rfl) rfl (tk_63 hT) ki_207 kcl_207 rfl rfl (by decide) (f_207 (d := d + 2) hT hI2 (LXp.fr hX fr2 rfl) hys0 hn (RSD.fr hR fr2 rfl) hW  (KB.fr hKX fr2 rfl) (by omega)) (kV (fun M63 hI63 fr63 v62p => ?_))
          have hFm63 := hFm2.call fr63 rfl
          have tr64 := (fr63 63 35 rfl)
          have tr65 := (fr63 63 36 rfl)
          have tr66 := rg_63_9 hI63
          have v62pk := v62p.2
          (replace v62p := v62p.1)
          refine s_goto (t := 155) kx_214_60 (by decide) ?_
          exact s_vret kx_214_155 kq_214 ⟨_, rfl, rfl, hI63, hFm63, ⟨⟨v62p.1, (by omega), (by omega), ⟨SLd.of v62p.2.2.2.1 (by omega) (TSg.fr (TSg.fr hS (rg_63_36 hI).1 fr2 rfl) (rg_63_36 hI2).1 fr63 rfl) (by omega), (KO.fr (KO.fr (KO.refl (M := M)) fr2 rfl) fr63 rfl)⟩, (st_y (st_sel (D := D) (w := 542723566) (by omega) (Or.inr (Or.inr (Or.inl ⟨rfl, rfl, rfl, rfl⟩)))) v62p.2.2.2.2.1 v62p.2.2.2.2.2 (fun z => DW_per hW ⟨hzq, hzn⟩ z) (CDR.fr (CDR.fr hCD fr2 rfl) fr63 rfl))⟩, v62pk⟩⟩
      · replace v13p := v13p.resolve_right (by omega)
        refine s_aload_n kx_214_39 rfl ?_
        refine s_callV2 (k := 63) (s1 := 1) (s2 := 0) (as := []) (rest := []) kx_214_40 kp_214_417 (Or.inl rfl) rfl (tk_63 hT) ki_205 kcl_205 rfl rfl (by decide) (f_205 (d := d + 1) hT hI2 (LXp.fr hX fr2 rfl) hys0 hn (RSD.fr hR fr2 rfl) hW  (KB.fr hKX fr2 rfl) (by omega)) (kV (fun M68 hI68 fr68 v67p => ?_))
        have hFm68 := hFm2.call fr68 rfl
        have tr69 := (fr68 63 35 rfl)
        have tr70 := (fr68 63 36 rfl)
        have tr71 := rg_63_9 hI68
        have v67pk := v67p.2
        (replace v67p := v67p.1)
        refine s_goto (t := 155) kx_214_43 (by decide) ?_
        exact s_vret kx_214_155 kq_214 ⟨_, rfl, rfl, hI68, hFm68, ⟨⟨v67p.1, (by omega), (by omega), ⟨SLd.of v67p.2.2.2.1 (by omega) (TSg.fr (TSg.fr hS (rg_63_36 hI).1 fr2 rfl) (rg_63_36 hI2).1 fr68 rfl) (by omega), (KO.fr (KO.fr (KO.refl (M := M)) fr2 rfl) fr68 rfl)⟩, (st_y (st_sel (D := D) (w := 773619712) (by omega) (Or.inr (Or.inl ⟨rfl, rfl, rfl, rfl⟩))) v67p.2.2.2.2.1 v67p.2.2.2.2.2 (fun z => DW_AW hW) (CDR.fr (CDR.fr hCD fr2 rfl) fr68 rfl))⟩, v67pk⟩⟩
    · replace v11p := v11p.resolve_right (by omega)
      refine s_aload_n kx_214_22 rfl ?_
      refine s_callV2 (k := 63) (s1 := 1) (s2 := 0) (as := []) (rest := []) kx_214_23 kp_214_414 (Or.inl rfl) rfl (tk_63 hT) ki_204 kcl_204 rfl rfl (by decide) (f_204 (d := d + 2) hT hI2 (LXp.fr hX fr2 rfl) hys0 hn (RSD.fr hR fr2 rfl) hW  (KB.fr hKX fr2 rfl) (by omega)) (kV (fun M73 hI73 fr73 v72p => ?_))
      have hFm73 := hFm2.call fr73 rfl
      have tr74 := (fr73 63 35 rfl)
      have tr75 := (fr73 63 36 rfl)
      have tr76 := rg_63_9 hI73
      have v72pk := v72p.2
      (replace v72p := v72p.1)
      refine s_goto (t := 155) kx_214_26 (by decide) ?_
      exact s_vret kx_214_155 kq_214 ⟨_, rfl, rfl, hI73, hFm73, ⟨⟨v72p.1, (by omega), (by omega), ⟨SLd.of v72p.2.2.2.1 (by omega) (TSg.fr (TSg.fr hS (rg_63_36 hI).1 fr2 rfl) (rg_63_36 hI2).1 fr73 rfl) (by omega), (KO.fr (KO.fr (KO.refl (M := M)) fr2 rfl) fr73 rfl)⟩, (st_y (st_sel (D := D) (w := 620213248) (by omega) (Or.inl ⟨rfl, rfl, rfl, rfl⟩)) v72p.2.2.2.2.1 v72p.2.2.2.2.2 (fun z => DW_room hW ⟨hzq, hzn⟩ z) (CDR.fr (CDR.fr hCD fr2 rfl) fr73 rfl))⟩, v72pk⟩⟩
  · have hk77 : M2 63 9 = v9 := v9e
    exact s_vret kx_214_11 kq_214 ⟨_, rfl, rfl, hI2, hFm2, ⟨⟨(LXp.fr hX fr2 rfl), (by omega), (by omega), ⟨Or.inl (by omega), (KO.fr (KO.refl (M := M)) fr2 rfl)⟩, (st_lx (Yst.z hY).2.2.2.1 v1p.1 (by omega))⟩, (KB.fr hKX fr2 rfl)⟩⟩
