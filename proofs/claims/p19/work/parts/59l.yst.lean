/-! the bank that stands stays as it is -/
def KBt (b : Int) (W M : cM) : Prop := (∀ c, c ∈ [65, 69, 79, 80, 75, 76, 77, 78] → M c b.toNat = W c b.toNat) ∧ (∀ c, c ∈ [66, 67, 70, 71, 72, 73, 74, 83, 84] → ∀ g : Nat, 8 * b ≤ (g : Int) → (g : Int) < 8 * b + 8 → M c g = W c g) ∧ (∀ g : Nat, 64 * b ≤ (g : Int) → (g : Int) < 64 * b + 64 → M 68 g = W 68 g) ∧ ∀ c, c ∈ [81, 82] → ∀ g : Nat, 1600 * b ≤ (g : Int) → (g : Int) < 1600 * b + 1600 → M c g = W c g
def KB (b : Int) (W M : cM) : Prop := M 63 36 = 1 - b ∧ 0 ≤ b ∧ b ≤ 1 ∧ KBt b W M
theorem KBt.refl {b : Int} {M : cM} : KBt b M M := ⟨fun _ _ => rfl, fun _ _ _ _ _ => rfl, fun _ _ _ => rfl, fun _ _ _ _ _ => rfl⟩
section KBS
variable {b : Int} {W M M1 : cM} {c g : Nat} {v x : Int}
theorem KBt.of {M2 : cM} (h : KBt b W M) (h1 : ∀ c, c ∈ [65, 69, 79, 80, 75, 76, 77, 78] → M1 c b.toNat = M c b.toNat) (h2 : ∀ c, c ∈ [66, 67, 70, 71, 72, 73, 74, 83, 84] → ∀ g : Nat, 8 * b ≤ (g : Int) → (g : Int) < 8 * b + 8 → M1 c g = M c g) (h3 : ∀ g : Nat, 64 * b ≤ (g : Int) → (g : Int) < 64 * b + 64 → M1 68 g = M 68 g) (h4 : ∀ c, c ∈ [81, 82] → ∀ g : Nat, 1600 * b ≤ (g : Int) → (g : Int) < 1600 * b + 1600 → M1 c g = M c g) : KBt b W M1 :=
  ⟨fun c hc => (h1 c hc).trans (h.1 c hc), fun c hc g g1 g2 => (h2 c hc g g1 g2).trans (h.2.1 c hc g g1 g2), fun g g1 g2 => (h3 g g1 g2).trans (h.2.2.1 g g1 g2), fun c hc g g1 g2 => (h4 c hc g g1 g2).trans (h.2.2.2 c hc g g1 g2)⟩
theorem KBt.u (h : KBt b W M) (u : Up M c g v M1) (hk : c < 65 ∨ 84 < c) : KBt b W M1 :=
  h.of (M2 := M) (fun d hd => u.2 d _ (by simp at hd; omega)) (fun d hd g _ _ => u.2 d g (by simp at hd; omega)) (fun g _ _ => u.2 68 g (by omega)) (fun d hd g _ _ => u.2 d g (by simp at hd; omega))
theorem KBt.u1 (h : KBt b W M) (u : Up M c x.toNat v M1) (hc : c = 65 ∨ c = 69 ∨ c = 79 ∨ c = 80 ∨ (75 ≤ c ∧ c ≤ 78)) (hx : 0 ≤ x ∧ x ≠ b) (hb : 0 ≤ b) : KBt b W M1 :=
  h.of (M2 := M) (fun d hd => u.2 d _ (by simp at hd; omega)) (fun d hd g _ _ => u.2 d g (by simp at hd; omega)) (fun g _ _ => u.2 68 g (by omega)) (fun d hd g _ _ => u.2 d g (by simp at hd; omega))
theorem KB.up0 (h : KB b W M) (u : Up M c g v M1) (hk : (c < 65 ∧ (c ≠ 63 ∨ g ≠ 36)) ∨ 84 < c) : KB b W M1 :=
  ⟨(u.2 63 36 (by omega)).trans h.1, h.2.1, h.2.2.1, h.2.2.2.of (M2 := M) (fun d hd => u.2 d _ (by simp at hd; omega)) (fun d hd g _ _ => u.2 d g (by simp at hd; omega)) (fun g _ _ => u.2 68 g (by omega)) (fun d hd g _ _ => u.2 d g (by simp at hd; omega))⟩
theorem KB.up1 (h : KB b W M) (u : Up M c x.toNat v M1) (hc : c = 65 ∨ c = 69 ∨ c = 79 ∨ c = 80 ∨ (75 ≤ c ∧ c ≤ 78)) (hx : 0 ≤ x ∧ x ≠ b) : KB b W M1 := by
  have hb := h.2.1
  exact ⟨(u.2 63 36 (by omega)).trans h.1, h.2.1, h.2.2.1, h.2.2.2.of (M2 := M) (fun d hd => u.2 d _ (by simp at hd; omega)) (fun d hd g _ _ => u.2 d g (by simp at hd; omega)) (fun g _ _ => u.2 68 g (by omega)) (fun d hd g _ _ => u.2 d g (by simp at hd; omega))⟩
theorem KB.up8 (h : KB b W M) (u : Up M c x.toNat v M1) (hc : c = 66 ∨ c = 67 ∨ c = 70 ∨ c = 71 ∨ c = 72 ∨ c = 73 ∨ c = 74 ∨ c = 83 ∨ c = 84) (hx : 0 ≤ x ∧ (x < 8 * b ∨ 8 * b + 8 ≤ x)) : KB b W M1 :=
  ⟨(u.2 63 36 (by omega)).trans h.1, h.2.1, h.2.2.1, h.2.2.2.of (M2 := M) (fun d hd => u.2 d _ (by simp at hd; omega)) (fun d hd g _ _ => u.2 d g (by omega)) (fun g _ _ => u.2 68 g (by omega)) (fun d hd g _ _ => u.2 d g (by simp at hd; omega))⟩
theorem KB.up64 (h : KB b W M) (u : Up M 68 x.toNat v M1) (hx : 0 ≤ x ∧ (x < 64 * b ∨ 64 * b + 64 ≤ x)) : KB b W M1 :=
  ⟨(u.2 63 36 (by omega)).trans h.1, h.2.1, h.2.2.1, h.2.2.2.of (M2 := M) (fun d hd => u.2 d _ (by simp at hd; omega)) (fun d hd g _ _ => u.2 d g (by simp at hd; omega)) (fun g _ _ => u.2 68 g (by omega)) (fun d hd g _ _ => u.2 d g (by simp at hd; omega))⟩
theorem KB.upk (h : KB b W M) (u : Up M c x.toNat v M1) (hc : c = 81 ∨ c = 82) (hx : 0 ≤ x ∧ (x < 1600 * b ∨ 1600 * b + 1600 ≤ x)) : KB b W M1 :=
  ⟨(u.2 63 36 (by omega)).trans h.1, h.2.1, h.2.2.1, h.2.2.2.of (M2 := M) (fun d hd => u.2 d _ (by simp at hd; omega)) (fun d hd g _ _ => u.2 d g (by simp at hd; omega)) (fun g _ _ => u.2 68 g (by omega)) (fun d hd g _ _ => u.2 d g (by omega))⟩
def kbf (S : List (Nat × Nat)) : Bool := !c_in S 63 36 && [65, 66, 67, 68, 69, 70, 71, 72, 73, 74, 79, 80, 83, 84, 75, 76, 77, 78, 81, 82].all fun c => S.all fun p => p.1 != c
theorem KBt.fr {S : List (Nat × Nat)} (h : KBt b W M) (g : Fr S M M1) (hs : kbf S = true) : KBt b W M1 := by
  unfold kbf at hs
  rw [Bool.and_eq_true] at hs
  have e : ∀ c, c ∈ [65, 66, 67, 68, 69, 70, 71, 72, 73, 74, 79, 80, 83, 84, 75, 76, 77, 78, 81, 82] → ∀ f, M1 c f = M c f := fun c hc f => g c f (nin (by simp at hc; omega) (List.all_eq_true.mp hs.2 c hc) f)
  exact h.of (M2 := M) (fun c hc => e c (by simp at hc ⊢; omega) _) (fun c hc f _ _ => e c (by simp at hc ⊢; omega) f) (fun f _ _ => e 68 (by decide) f) (fun c hc f _ _ => e c (by simp at hc ⊢; omega) f)
theorem KB.fr {S : List (Nat × Nat)} (h : KB b W M) (g : Fr S M M1) (hs : kbf S = true) : KB b W M1 := by
  have hs2 := hs
  unfold kbf at hs2
  rw [Bool.and_eq_true] at hs2
  exact ⟨(g 63 36 (by simpa using hs2.1)).trans h.1, h.2.1, h.2.2.1, h.2.2.2.fr g hs⟩
end KBS
def gS_204_l97 : List (Nat × Nat) := [(68, 99999)]
def gS_204_m : List (Nat × Nat) := [(63, 10), (63, 13), (63, 3), (63, 4), (63, 5), (63, 6), (63, 7), (63, 8), (63, 9), (65, 99999), (66, 99999), (67, 99999), (68, 99999), (83, 99999)]
theorem f_204 {xs : Nat → Int} {Ln d : Nat} {T : List cK} {M : cM} (hT : TT T) (hI : Rng M) (hX : LXp M) {s : Nat → Int} {n q : Int} {D : cM} (hY : Yst M s n 0 q) (hn : n ≤ 1600) (hR : RSD M D) (hW : DW D) {bX : Int} {WX : cM} (hKX : KB bX WX M) (p0 : M 63 4 + 1 ≤ M 63 5) : cC k_P xs Ln (d + 3) 204 [rf 63] (T, M) (qV T M gS_204_m (fun M1 => (LXp M1 ∧ M 63 4 ≤ M1 63 4 ∧ M 63 9 ≤ M1 63 9 ∧ (PRd M M1) ∧ Yst M1 s n (owRoomF s n D q) (owRoomP s n q) ∧ (owRoomF s n D q = 0 → RSD M1 (owRoomD s n D q))) ∧ KB bX WX M1)) := by
  show cP k_P xs Ln (d + 3) 204 0 [(0, rf 63)] [] (T, M) _
  have hFm : Fr gS_204_m M M := Fr.refl
  have h639 := rg_63_9 hI
  have hz9 := hY.z.1
  have hzb := hY.z.2.b hn
  have hq0 := hY.z.2.2.2.1
  have hqn := hY.z.2.2.2.2.1
  have hr36 := rg_63_36 hI
  have hq65 := hR.1
  have hq69 := hR.2.1
  have hw0 := hW.1
  have hw1 := hW.2.1
  have hw2 := hW.2.2.1
  have hw3 := hW.2.2.2.1
  have hkx1 := hKX.1
  have hkx2 := hKX.2.1
  have hkx3 := hKX.2.2.1
  refine s_aload_n kx_204_0 rfl ?_
  refine s_aload_n kx_204_1 rfl ?_
  refine r_getR (k := 63) (f := 15) (k2 := 65) kx_204_2 kp_204_57 (tk_63 hT) kf_12_15 (by decide) (rq_63_15 hI) ?_
  refine s_aload_n kx_204_5 rfl ?_
  refine r_getI (k := 63) (f := 36) kx_204_6 kp_204_121 (tk_63 hT) kf_12_36 (fun _ => rfl) (rg_63_36 hI) (fun v1 v1e v1a v1b => ?_)
  have hq65i := hq65
  rw [v1e] at hq65i
  refine r_ald (k := 65) kx_204_9 (tk_65 hT) ⟨by omega, by omega⟩ (rg_65 hI) (fun v2 v2e v2a v2b => ?_)
  refine s_bipush (v := 8) kx_204_10 (by decide) ?_
  refine s_icmp_ne (t := 19) kx_204_12 (by decide) (fun hc3 => ?_) (fun hc3 => ?_)
  · refine s_iconst (v := 0) kx_204_19 (by decide) ?_
    refine s_callV2 (k := 63) (s1 := 2) (s2 := 0) (as := [(0, 0)]) (rest := []) kx_204_20 kp_204_386 (Or.inl rfl) rfl (tk_63 hT) ki_199 kcl_199 rfl rfl (by decide) (f_199 (d := d) (full := 0) hT hI hX hY hn (by omega)) (kW (fun v4 M5 hI5 fr5 v4p => ?_))
    have hFm5 := hFm.call fr5 rfl
    have tr6 := (fr5 63 36 rfl)
    have tr7 := rg_63_9 hI5
    refine s_if_ne (t := 27) kx_204_23 (by decide) (fun hc8 => ?_) (fun hc8 => ?_)
    · have hc9 := v4p.2.2.2.resolve_right (by omega)
      have hc9a := hc9.2.1
      refine s_bipush (v := 8) kx_204_27 (by decide) ?_
      refine s_aload_n kx_204_29 rfl ?_
      refine r_getK (k := 63) (f := 36) kx_204_30 kp_204_121 (tk_63 hT) kf_12_36 (fun _ => rfl) ((fr5 63 36 rfl).trans v1e) ?_
      refine r_mul kx_204_33 ⟨by omega, by omega⟩ ?_
      refine s_aload_n kx_204_34 rfl ?_
      refine r_getR (k := 63) (f := 15) (k2 := 65) kx_204_35 kp_204_57 (tk_63 hT) kf_12_15 (by decide) (rq_63_15 hI5) ?_
      refine s_aload_n kx_204_38 rfl ?_
      refine r_getK (k := 63) (f := 36) kx_204_39 kp_204_121 (tk_63 hT) kf_12_36 (fun _ => rfl) ((fr5 63 36 rfl).trans v1e) ?_
      refine r_aldK (k := 65) kx_204_42 (tk_65 hT) ⟨by omega, by omega⟩ ((fr5 65 _ rfl).trans v2e) ?_
      refine r_add kx_204_43 ⟨by omega, by omega⟩ ?_
      refine s_istore_n kx_204_44 km_204_1 rfl ?_
      refine s_aload_n kx_204_45 rfl ?_
      refine r_getR (k := 63) (f := 33) (k2 := 83) kx_204_46 kp_204_111 (tk_63 hT) kf_12_33 (by decide) (rq_63_33 hI5) ?_
      refine s_iload_n kx_204_49 rfl ?_
      refine s_aload_n kx_204_50 rfl ?_
      refine s_callV2 (k := 63) (s1 := 1) (s2 := 2) (as := []) (rest := [(0, ((8 * v1) + v2)), rf 83]) kx_204_51 kp_204_390 (Or.inl rfl) rfl (tk_63 hT) ki_201 kcl_201 rfl rfl (by decide) (f_201 (d := d) hT hI5 v4p.1 (show Yst M5 s n 0 (owE s n q) from Or.inr ⟨rfl, hc9.2.1.2.2, hc9.2.2⟩) hn (RSD.fr hR fr5 rfl)) (kW (fun v10 M11 hI11 fr11 v10p => ?_))
      have hFm11 := hFm5.call fr11 rfl
      have tr12 := (fr11 63 36 rfl)
      have tr13 := rg_63_9 hI11
      have hk14 : M11 63 36 = v1 := ((fr11 63 36 rfl).trans ((fr5 63 36 rfl).trans v1e))
      refine r_last (k := 83) kx_204_54 (tk_83 hT) ⟨by omega, by omega⟩ hI11 ru_83 (fun M15 hI15 u15 => ?_)
      have hFm15 := hFm11.up u15 rfl
      have tr16 := (u15.2 63 3 (by omega))
      have tr17 := (u15.2 63 4 (by omega))
      have tr18 := (u15.2 63 5 (by omega))
      have tr19 := (u15.2 63 9 (by omega))
      have tr20 := (u15.2 63 10 (by omega))
      have tr21 := (u15.2 63 36 (by omega))
      have hkx22 := (KB.up8 (KB.fr (KB.fr hKX fr5 rfl) fr11 rfl) u15 (by decide) ⟨by omega, by omega⟩)
      have hRS23 := RSD.upk (RSD.fr (RSD.fr hR fr5 rfl) fr11 rfl) u15 (by omega) ⟨by omega, by omega⟩ (by omega)
      refine s_aload_n kx_204_55 rfl ?_
      refine s_ldc2_w kx_204_56 kp_204_291 ?_
      refine s_callV2 (k := 63) (s1 := 3) (s2 := 0) (as := [(1, 1685024626)]) (rest := []) kx_204_59 kp_204_394 (Or.inl rfl) rfl (tk_63 hT) ki_200 kcl_200 rfl rfl (by decide) (f_200 (d := d) (w := 1685024626) hT hI15 (LXp.up v10p.1 u15 (Or.inl (by decide))) (Yst.up v10p.2.2.2.2.1 u15 ⟨by decide, Or.inl (by decide)⟩) hn (w5 := 150456320) n58_door (Or.inr (by decide)) (by omega)) (kV (fun M25 hI25 fr25 v24p => ?_))
      have hFm25 := hFm15.call fr25 rfl
      have tr26 := (fr25 63 36 rfl)
      have tr27 := rg_63_9 hI25
      refine s_aload_n kx_204_62 rfl ?_
      refine r_getR (k := 63) (f := 16) (k2 := 66) kx_204_63 kp_204_60 (tk_63 hT) kf_12_16 (by decide) (rq_63_16 hI25) ?_
      refine s_iload_n kx_204_66 rfl ?_
      refine s_aload_n kx_204_67 rfl ?_
      refine s_iconst (v := 1) kx_204_68 (by decide) ?_
      refine s_bipush (v := 9) kx_204_69 (by decide) ?_
      refine s_callV2 (k := 63) (s1 := 3) (s2 := 2) (as := [(0, 9), (0, 1)]) (rest := [(0, ((8 * v1) + v2)), rf 66]) kx_204_71 kp_204_398 (Or.inl rfl) rfl (tk_63 hT) ki_188 kcl_188 rfl rfl (by decide) (f_188 (d := d) (low := 1) (high := 9) hT hI25 v24p.1 v24p.2.2.2.2 hn) (kW (fun v28 M29 hI29 fr29 v28p => ?_))
      have hFm29 := hFm25.call fr29 rfl
      have tr30 := (fr29 63 36 rfl)
      have tr31 := rg_63_9 hI29
      have hk32 : M29 63 36 = v1 := ((fr29 63 36 rfl).trans ((fr25 63 36 rfl).trans ((u15.2 63 36 (by omega)).trans ((fr11 63 36 rfl).trans ((fr5 63 36 rfl).trans v1e)))))
      refine r_ast (k := 66) kx_204_74 (tk_66 hT) ⟨by omega, by omega⟩ hI29 ru_66 (fun M33 hI33 u33 => ?_)
      have hFm33 := hFm29.up u33 rfl
      have tr34 := (u33.2 63 3 (by omega))
      have tr35 := (u33.2 63 4 (by omega))
      have tr36 := (u33.2 63 5 (by omega))
      have tr37 := (u33.2 63 9 (by omega))
      have tr38 := (u33.2 63 10 (by omega))
      have tr39 := (u33.2 63 36 (by omega))
      have hkx40 := (KB.up8 (KB.fr (KB.fr hkx22 fr25 rfl) fr29 rfl) u33 (by decide) ⟨by omega, by omega⟩)
      have hRS41 := RSD.upk (RSD.fr (RSD.fr hRS23 fr25 rfl) fr29 rfl) u33 (by omega) ⟨by omega, by omega⟩ (by omega)
      refine s_aload_n kx_204_75 rfl ?_
      refine s_ldc2_w kx_204_76 kp_204_293 ?_
      refine s_callV2 (k := 63) (s1 := 3) (s2 := 0) (as := [(1, 439905906546)]) (rest := []) kx_204_79 kp_204_394 (Or.inl rfl) rfl (tk_63 hT) ki_200 kcl_200 rfl rfl (by decide) (f_200 (d := d) (w := 439905906546) hT hI33 (LXp.up v28p.1 u33 (Or.inl (by decide))) (Yst.up v28p.2.2.2.2.1 u33 ⟨by decide, Or.inl (by decide)⟩) hn (w5 := 214416960) n58_floor (Or.inr (by decide)) (by omega)) (kV (fun M43 hI43 fr43 v42p => ?_))
      have hFm43 := hFm33.call fr43 rfl
      have tr44 := (fr43 63 36 rfl)
      have tr45 := rg_63_9 hI43
      refine s_aload_n kx_204_82 rfl ?_
      refine r_getR (k := 63) (f := 17) (k2 := 67) kx_204_83 kp_204_63 (tk_63 hT) kf_12_17 (by decide) (rq_63_17 hI43) ?_
      refine s_iload_n kx_204_86 rfl ?_
      refine s_aload_n kx_204_87 rfl ?_
      refine s_iconst (v := 1) kx_204_88 (by decide) ?_
      refine s_bipush (v := 99) kx_204_89 (by decide) ?_
      refine s_callV2 (k := 63) (s1 := 3) (s2 := 2) (as := [(0, 99), (0, 1)]) (rest := [(0, ((8 * v1) + v2)), rf 67]) kx_204_91 kp_204_398 (Or.inl rfl) rfl (tk_63 hT) ki_188 kcl_188 rfl rfl (by decide) (f_188 (d := d) (low := 1) (high := 99) hT hI43 v42p.1 v42p.2.2.2.2 hn) (kW (fun v46 M47 hI47 fr47 v46p => ?_))
      have hFm47 := hFm43.call fr47 rfl
      have tr48 := (fr47 63 36 rfl)
      have tr49 := rg_63_9 hI47
      have hk50 : M47 63 36 = v1 := ((fr47 63 36 rfl).trans ((fr43 63 36 rfl).trans ((u33.2 63 36 (by omega)).trans ((fr29 63 36 rfl).trans ((fr25 63 36 rfl).trans ((u15.2 63 36 (by omega)).trans ((fr11 63 36 rfl).trans ((fr5 63 36 rfl).trans v1e))))))))
      refine r_ast (k := 67) kx_204_94 (tk_67 hT) ⟨by omega, by omega⟩ hI47 ru_67 (fun M51 hI51 u51 => ?_)
      have hFm51 := hFm47.up u51 rfl
      have tr52 := (u51.2 63 3 (by omega))
      have tr53 := (u51.2 63 4 (by omega))
      have tr54 := (u51.2 63 5 (by omega))
      have tr55 := (u51.2 63 9 (by omega))
      have tr56 := (u51.2 63 10 (by omega))
      have tr57 := (u51.2 63 36 (by omega))
      have hkx58 := (KB.up8 (KB.fr (KB.fr hkx40 fr43 rfl) fr47 rfl) u51 (by decide) ⟨by omega, by omega⟩)
      have hRS59 := RSD.upk (RSD.fr (RSD.fr hRS41 fr43 rfl) fr47 rfl) u51 (by omega) ⟨by omega, by omega⟩ (by omega)
      refine s_iconst (v := 0) kx_204_95 (by decide) ?_
      refine s_istore_n kx_204_96 km_204_2 rfl ?_
      have key62 : ∀ n63 : Nat, ∀ (x2_60 : Int), ∀ M61 : cM, Rng M61 → Fr gS_204_m M M61 → Fr gS_204_l97 M51 M61 → (0 ≤ x2_60) → (x2_60 ≤ 8) → (KB bX WX M61) → (RSD M61 D) → (∀ j : Nat, (j : Int) < x2_60 → M61 68 (64 * M 63 36 + 8 * D 0 0 + (j : Int)).toNat = 0 ∧ M61 68 (64 * M 63 36 + 8 * (j : Int) + D 0 0).toNat = 0) → (2147483647 - x2_60).toNat < n63 → cP k_P xs Ln (d + 3) 204 97 [(0, rf 63), (1, (0, ((8 * v1) + v2))), (2, (0, x2_60))] [] (T, M61) (qV T M gS_204_m (fun M1 => (LXp M1 ∧ M 63 4 ≤ M1 63 4 ∧ M 63 9 ≤ M1 63 9 ∧ (PRd M M1) ∧ Yst M1 s n (owRoomF s n D q) (owRoomP s n q) ∧ (owRoomF s n D q = 0 → RSD M1 (owRoomD s n D q))) ∧ KB bX WX M1)) := by
        intro n63
        induction n63 with
        | zero => intro x2_60 M61 hI61 hFm61 fl61 i64 i65 i66 i67 i68 hm69; exact absurd hm69 (Nat.not_lt_zero _)
        | succ n63 ih70 =>
          intro x2_60 M61 hI61 hFm61 fl61 i64 i65 i66 i67 i68 hm69
          have tr71 := fl61 63 4 rfl
          have tr72 := fl61 63 9 rfl
          have tr73 := rg_63_9 hI61
          have tr74 : M61 63 36 = M 63 36 := ((fl61 63 36 rfl).trans ((u51.2 63 36 (by omega)).trans ((fr47 63 36 rfl).trans ((fr43 63 36 rfl).trans ((u33.2 63 36 (by omega)).trans ((fr29 63 36 rfl).trans ((fr25 63 36 rfl).trans ((u15.2 63 36 (by omega)).trans ((fr11 63 36 rfl).trans (fr5 63 36 rfl))))))))))
          refine s_iload_n kx_204_97 rfl ?_
          refine s_bipush (v := 8) kx_204_98 (by decide) ?_
          refine s_icmp_ge (t := 149) kx_204_100 (by decide) (fun hc75 => ?_) (fun hc75 => ?_)
          · refine s_aload_n kx_204_149 rfl ?_
            refine r_getI (k := 63) (f := 9) kx_204_150 kp_204_39 (tk_63 hT) kf_12_9 (fun _ => rfl) (rg_63_9 hI61) (fun v76 v76e v76a v76b => ?_)
            refine s_if_ne (t := 169) kx_204_153 (by decide) (fun hc77 => ?_) (fun hc77 => ?_)
            · have hk78 : M61 63 9 = v76 := v76e
              exact s_vret kx_204_169 kq_204 ⟨_, rfl, rfl, hI61, hFm61, ⟨⟨(LXp.fr (LXp.up v46p.1 u51 (Or.inl (by decide))) fl61 rfl), by omega, by omega, by unfold PRd; omega, ⟨(by rw [← room_seq (s := s) (n := n) (D := D) ⟨hq0, hqn⟩ (by omega)]; exact (Yst.fr (Yst.up v46p.2.2.2.2.1 u51 ⟨by decide, Or.inl (by decide)⟩) fl61 rfl)), fun g => by rw [← room_seq (s := s) (n := n) (D := D) ⟨hq0, hqn⟩ (by omega)] at g; exact absurd g (Yst.pos (Yst.fr (Yst.up v46p.2.2.2.2.1 u51 ⟨by decide, Or.inl (by decide)⟩) fl61 rfl) (by omega)).1⟩⟩, i66⟩⟩
            · refine s_aload_n kx_204_156 rfl ?_
              refine r_getR (k := 63) (f := 15) (k2 := 65) kx_204_157 kp_204_57 (tk_63 hT) kf_12_15 (by decide) (rq_63_15 hI61) ?_
              refine s_aload_n kx_204_160 rfl ?_
              refine r_getK (k := 63) (f := 36) kx_204_161 kp_204_121 (tk_63 hT) kf_12_36 (fun _ => rfl) ((fl61 63 36 rfl).trans ((u51.2 63 36 (by omega)).trans ((fr47 63 36 rfl).trans ((fr43 63 36 rfl).trans ((u33.2 63 36 (by omega)).trans ((fr29 63 36 rfl).trans ((fr25 63 36 rfl).trans ((u15.2 63 36 (by omega)).trans ((fr11 63 36 rfl).trans ((fr5 63 36 rfl).trans v1e)))))))))) ?_
              refine s_dup2 kx_204_164 rfl rfl ?_
              refine r_aldK (k := 65) kx_204_165 (tk_65 hT) ⟨by omega, by omega⟩ ((fl61 65 _ rfl).trans ((u51.2 65 _ (by omega)).trans ((fr47 65 _ rfl).trans ((fr43 65 _ rfl).trans ((u33.2 65 _ (by omega)).trans ((fr29 65 _ rfl).trans ((fr25 65 _ rfl).trans ((u15.2 65 _ (by omega)).trans ((fr11 65 _ rfl).trans ((fr5 65 _ rfl).trans v2e)))))))))) ?_
              refine s_iconst (v := 1) kx_204_166 (by decide) ?_
              refine r_add kx_204_167 ⟨by omega, by omega⟩ ?_
              refine r_ast (k := 65) kx_204_168 (tk_65 hT) ⟨by omega, by omega⟩ hI61 (ru_65 (by omega) (by omega)) (fun M79 hI79 u79 => ?_)
              have hFm79 := hFm61.up u79 rfl
              have tr80 := (u79.2 63 3 (by omega))
              have tr81 := (u79.2 63 4 (by omega))
              have tr82 := (u79.2 63 5 (by omega))
              have tr83 := (u79.2 63 9 (by omega))
              have tr84 := (u79.2 63 10 (by omega))
              have tr85 := (u79.2 63 36 (by omega))
              have hkx86 := (KB.up1 i66 u79 (by decide) ⟨by omega, by omega⟩)
              have hk87 : M79 63 9 = v76 := ((u79.2 63 9 (by omega)).trans v76e)
              exact s_vret kx_204_169 kq_204 ⟨_, rfl, rfl, hI79, hFm79, ⟨⟨(LXp.up (LXp.fr (LXp.up v46p.1 u51 (Or.inl (by decide))) fl61 rfl) u79 (Or.inl (by decide))), by omega, by omega, by unfold PRd; omega, ⟨(by rw [← room_seq (s := s) (n := n) (D := D) ⟨hq0, hqn⟩ (by omega)]; exact (Yst.up (Yst.fr (Yst.up v46p.2.2.2.2.1 u51 ⟨by decide, Or.inl (by decide)⟩) fl61 rfl) u79 ⟨by decide, Or.inl (by decide)⟩)), fun _ => RSD.addR i67 ((fl61 63 36 rfl).trans ((u51.2 63 36 (by omega)).trans ((fr47 63 36 rfl).trans ((fr43 63 36 rfl).trans ((u33.2 63 36 (by omega)).trans ((fr29 63 36 rfl).trans ((fr25 63 36 rfl).trans ((u15.2 63 36 (by omega)).trans ((fr11 63 36 rfl).trans ((fr5 63 36 rfl).trans v1e)))))))))) (by omega) (by omega) (by omega) (fun j hj => by have hz9_ := i68 j (by omega); rw [show M 63 36 = v1 by omega] at hz9_; exact hz9_) (by rw [(show (8 * v1 + D 0 0).toNat = (((8 * v1) + v2)).toNat by congr 1; omega), ((fl61 83 _ rfl).trans ((u51.2 83 _ (by omega)).trans ((fr47 83 _ rfl).trans ((fr43 83 _ rfl).trans ((u33.2 83 _ (by omega)).trans ((fr29 83 _ rfl).trans ((fr25 83 _ rfl).trans u15.1)))))))]; exact v10p.2.2.2.2.2 (yMu_f (yNu_f (yMu_f (yNu_f (Yst.zero (Yst.fr (Yst.up v46p.2.2.2.2.1 u51 ⟨by decide, Or.inl (by decide)⟩) fl61 rfl) (by omega)).1))))) (by rw [(show (8 * v1 + D 0 0).toNat = (((8 * v1) + v2)).toNat by congr 1; omega), ((fl61 66 _ rfl).trans ((u51.2 66 _ (by omega)).trans ((fr47 66 _ rfl).trans ((fr43 66 _ rfl).trans u33.1))))]; exact v28p.2.2.2.2.2 (yMu_f (yNu_f (Yst.zero (Yst.fr (Yst.up v46p.2.2.2.2.1 u51 ⟨by decide, Or.inl (by decide)⟩) fl61 rfl) (by omega)).1))) (by rw [(show (8 * v1 + D 0 0).toNat = (((8 * v1) + v2)).toNat by congr 1; omega), ((fl61 67 _ rfl).trans u51.1)]; exact v46p.2.2.2.2.2 (Yst.zero (Yst.fr (Yst.up v46p.2.2.2.2.1 u51 ⟨by decide, Or.inl (by decide)⟩) fl61 rfl) (by omega)).1) (by rw [show D 0 0 + 1 = (v2 + 1) by omega]; exact u79)⟩⟩, hkx86⟩⟩
          · refine s_aload_n kx_204_103 rfl ?_
            refine r_getR (k := 63) (f := 18) (k2 := 68) kx_204_104 kp_204_66 (tk_63 hT) kf_12_18 (by decide) (rq_63_18 hI61) ?_
            refine s_bipush (v := 8) kx_204_107 (by decide) ?_
            refine s_iload_n kx_204_109 rfl ?_
            refine r_mul kx_204_110 ⟨by omega, by omega⟩ ?_
            refine s_iload_n kx_204_111 rfl ?_
            refine r_add kx_204_112 ⟨by omega, by omega⟩ ?_
            refine s_iconst (v := 0) kx_204_113 (by decide) ?_
            refine r_ast (k := 68) kx_204_114 (tk_68 hT) ⟨by omega, by omega⟩ hI61 (ru_68 (by omega) (by omega)) (fun M88 hI88 u88 => ?_)
            have hFm88 := hFm61.up u88 rfl
            have hFl9788 := fl61.up u88 rfl
            have tr89 := (u88.2 63 3 (by omega))
            have tr90 := (u88.2 63 4 (by omega))
            have tr91 := (u88.2 63 5 (by omega))
            have tr92 := (u88.2 63 9 (by omega))
            have tr93 := (u88.2 63 10 (by omega))
            have tr94 := (u88.2 63 36 (by omega))
            have hkx95 := (KB.up64 i66 u88 ⟨by omega, by omega⟩)
            refine s_aload_n kx_204_115 rfl ?_
            refine r_getR (k := 63) (f := 18) (k2 := 68) kx_204_116 kp_204_66 (tk_63 hT) kf_12_18 (by decide) (rq_63_18 hI88) ?_
            refine s_bipush (v := 8) kx_204_119 (by decide) ?_
            refine s_bipush (v := 8) kx_204_121 (by decide) ?_
            refine s_aload_n kx_204_123 rfl ?_
            refine r_getK (k := 63) (f := 36) kx_204_124 kp_204_121 (tk_63 hT) kf_12_36 (fun _ => rfl) ((u88.2 63 36 (by omega)).trans ((fl61 63 36 rfl).trans ((u51.2 63 36 (by omega)).trans ((fr47 63 36 rfl).trans ((fr43 63 36 rfl).trans ((u33.2 63 36 (by omega)).trans ((fr29 63 36 rfl).trans ((fr25 63 36 rfl).trans ((u15.2 63 36 (by omega)).trans ((fr11 63 36 rfl).trans ((fr5 63 36 rfl).trans v1e))))))))))) ?_
            refine r_mul kx_204_127 ⟨by omega, by omega⟩ ?_
            refine s_iload_n kx_204_128 rfl ?_
            refine r_add kx_204_129 ⟨by omega, by omega⟩ ?_
            refine r_mul kx_204_130 ⟨by omega, by omega⟩ ?_
            refine s_aload_n kx_204_131 rfl ?_
            refine r_getR (k := 63) (f := 15) (k2 := 65) kx_204_132 kp_204_57 (tk_63 hT) kf_12_15 (by decide) (rq_63_15 hI88) ?_
            refine s_aload_n kx_204_135 rfl ?_
            refine r_getK (k := 63) (f := 36) kx_204_136 kp_204_121 (tk_63 hT) kf_12_36 (fun _ => rfl) ((u88.2 63 36 (by omega)).trans ((fl61 63 36 rfl).trans ((u51.2 63 36 (by omega)).trans ((fr47 63 36 rfl).trans ((fr43 63 36 rfl).trans ((u33.2 63 36 (by omega)).trans ((fr29 63 36 rfl).trans ((fr25 63 36 rfl).trans ((u15.2 63 36 (by omega)).trans ((fr11 63 36 rfl).trans ((fr5 63 36 rfl).trans v1e))))))))))) ?_
            refine r_aldK (k := 65) kx_204_139 (tk_65 hT) ⟨by omega, by omega⟩ ((u88.2 65 _ (by omega)).trans ((fl61 65 _ rfl).trans ((u51.2 65 _ (by omega)).trans ((fr47 65 _ rfl).trans ((fr43 65 _ rfl).trans ((u33.2 65 _ (by omega)).trans ((fr29 65 _ rfl).trans ((fr25 65 _ rfl).trans ((u15.2 65 _ (by omega)).trans ((fr11 65 _ rfl).trans ((fr5 65 _ rfl).trans v2e))))))))))) ?_
            refine r_add kx_204_140 ⟨by omega, by omega⟩ ?_
            refine s_iconst (v := 0) kx_204_141 (by decide) ?_
            refine r_ast (k := 68) kx_204_142 (tk_68 hT) ⟨by omega, by omega⟩ hI88 (ru_68 (by omega) (by omega)) (fun M96 hI96 u96 => ?_)
            have hFm96 := hFm88.up u96 rfl
            have hFl9796 := hFl9788.up u96 rfl
            have tr97 := (u96.2 63 3 (by omega))
            have tr98 := (u96.2 63 4 (by omega))
            have tr99 := (u96.2 63 5 (by omega))
            have tr100 := (u96.2 63 9 (by omega))
            have tr101 := (u96.2 63 10 (by omega))
            have tr102 := (u96.2 63 36 (by omega))
            have hkx103 := (KB.up64 hkx95 u96 ⟨by omega, by omega⟩)
            refine r_iinc kx_204_143 rfl km_204_2 (by decide) ⟨by omega, by omega⟩ rfl ?_
            refine s_goto (t := 97) kx_204_146 (by decide) ?_
            exact cP.wk (lS1 rfl (lS1 rfl (lS1 rfl lS0))) (ih70 (x2_60 + 1) M96 hI96 hFm96 hFl9796 (by omega) (by omega) hkx103 (RSD.up68 (RSD.up68 i67 rfl (by omega) u88 (by omega) (fun a b ha hb => by omega)) rfl (by omega) u96 (by omega) (fun a b ha hb => by omega)) (wz_step i68 u88 u96 (by omega) (by omega) ⟨by omega, by omega, by omega⟩) (by omega))
      exact cP.wk (lS1 rfl (lS1 rfl (lS1 rfl lS0))) (key62 _ 0 M51 hI51 hFm51 Fr.refl (by omega) (by omega) hkx58 hRS59 (fun j hj => absurd hj (by omega)) (Nat.lt_succ_self _))
    · have hc104 := v4p.2.2.2.resolve_left (by omega)
      have hc104a := hc104.2.1
      exact s_vret kx_204_26 kq_204 ⟨_, rfl, rfl, hI5, hFm5, ⟨⟨v4p.1, by omega, by omega, by unfold PRd; omega, ⟨(Or.inl (by rw [show owRoomF s n D q = 60000 + owB s n q by unfold owRoomF; (repeat' split) <;> omega]; exact hc104.2.2.1)), fun g => by exfalso; rw [show owRoomF s n D q = 60000 + owB s n q by unfold owRoomF; (repeat' split) <;> omega] at g; exact hc104.2.2.1.1 g⟩⟩, (KB.fr hKX fr5 rfl)⟩⟩
  · refine s_iconst (v := 1) kx_204_15 (by decide) ?_
    refine s_goto (t := 20) kx_204_16 (by decide) ?_
    refine s_callV2 (k := 63) (s1 := 2) (s2 := 0) (as := [(0, 1)]) (rest := []) kx_204_20 kp_204_386 (Or.inl rfl) rfl (tk_63 hT) ki_199 kcl_199 rfl rfl (by decide) (f_199 (d := d) (full := 1) hT hI hX hY hn (by omega)) (kW (fun v105 M106 hI106 fr106 v105p => ?_))
    have hFm106 := hFm.call fr106 rfl
    have tr107 := (fr106 63 36 rfl)
    have tr108 := rg_63_9 hI106
    refine s_if_ne (t := 27) kx_204_23 (by decide) (fun hc109 => ?_) (fun hc109 => ?_)
    · have hc110 := v105p.2.2.2.resolve_right (by omega)
      have hc110a := hc110.2.1
      refine s_bipush (v := 8) kx_204_27 (by decide) ?_
      refine s_aload_n kx_204_29 rfl ?_
      refine r_getK (k := 63) (f := 36) kx_204_30 kp_204_121 (tk_63 hT) kf_12_36 (fun _ => rfl) ((fr106 63 36 rfl).trans v1e) ?_
      refine r_mul kx_204_33 ⟨by omega, by omega⟩ ?_
      refine s_aload_n kx_204_34 rfl ?_
      refine r_getR (k := 63) (f := 15) (k2 := 65) kx_204_35 kp_204_57 (tk_63 hT) kf_12_15 (by decide) (rq_63_15 hI106) ?_
      refine s_aload_n kx_204_38 rfl ?_
      refine r_getK (k := 63) (f := 36) kx_204_39 kp_204_121 (tk_63 hT) kf_12_36 (fun _ => rfl) ((fr106 63 36 rfl).trans v1e) ?_
      refine r_aldK (k := 65) kx_204_42 (tk_65 hT) ⟨by omega, by omega⟩ ((fr106 65 _ rfl).trans v2e) ?_
      refine r_add kx_204_43 ⟨by omega, by omega⟩ ?_
      refine s_istore_n kx_204_44 km_204_1 rfl ?_
      refine s_aload_n kx_204_45 rfl ?_
      refine r_getR (k := 63) (f := 33) (k2 := 83) kx_204_46 kp_204_111 (tk_63 hT) kf_12_33 (by decide) (rq_63_33 hI106) ?_
      refine s_iload_n kx_204_49 rfl ?_
      refine s_aload_n kx_204_50 rfl ?_
      refine s_callV2 (k := 63) (s1 := 1) (s2 := 2) (as := []) (rest := [(0, ((8 * v1) + v2)), rf 83]) kx_204_51 kp_204_390 (Or.inl rfl) rfl (tk_63 hT) ki_201 kcl_201 rfl rfl (by decide) (f_201 (d := d) hT hI106 v105p.1 (show Yst M106 s n 0 (owE s n q) from Or.inr ⟨rfl, hc110.2.1.2.2, hc110.2.2⟩) hn (RSD.fr hR fr106 rfl)) (kW (fun v111 M112 hI112 fr112 v111p => ?_))
      have hFm112 := hFm106.call fr112 rfl
      have tr113 := (fr112 63 36 rfl)
      have tr114 := rg_63_9 hI112
      have hk115 : M112 63 36 = v1 := ((fr112 63 36 rfl).trans ((fr106 63 36 rfl).trans v1e))
      refine r_last (k := 83) kx_204_54 (tk_83 hT) ⟨by omega, by omega⟩ hI112 ru_83 (fun M116 hI116 u116 => ?_)
      have hFm116 := hFm112.up u116 rfl
      have tr117 := (u116.2 63 3 (by omega))
      have tr118 := (u116.2 63 4 (by omega))
      have tr119 := (u116.2 63 5 (by omega))
      have tr120 := (u116.2 63 9 (by omega))
      have tr121 := (u116.2 63 10 (by omega))
      have tr122 := (u116.2 63 36 (by omega))
      have hkx123 := (KB.up8 (KB.fr (KB.fr hKX fr106 rfl) fr112 rfl) u116 (by decide) ⟨by omega, by omega⟩)
      have hRS124 := RSD.upk (RSD.fr (RSD.fr hR fr106 rfl) fr112 rfl) u116 (by omega) ⟨by omega, by omega⟩ (by omega)
      refine s_aload_n kx_204_55 rfl ?_
      refine s_ldc2_w kx_204_56 kp_204_291 ?_
      refine s_callV2 (k := 63) (s1 := 3) (s2 := 0) (as := [(1, 1685024626)]) (rest := []) kx_204_59 kp_204_394 (Or.inl rfl) rfl (tk_63 hT) ki_200 kcl_200 rfl rfl (by decide) (f_200 (d := d) (w := 1685024626) hT hI116 (LXp.up v111p.1 u116 (Or.inl (by decide))) (Yst.up v111p.2.2.2.2.1 u116 ⟨by decide, Or.inl (by decide)⟩) hn (w5 := 150456320) n58_door (Or.inr (by decide)) (by omega)) (kV (fun M126 hI126 fr126 v125p => ?_))
      have hFm126 := hFm116.call fr126 rfl
      have tr127 := (fr126 63 36 rfl)
      have tr128 := rg_63_9 hI126
      refine s_aload_n kx_204_62 rfl ?_
      refine r_getR (k := 63) (f := 16) (k2 := 66) kx_204_63 kp_204_60 (tk_63 hT) kf_12_16 (by decide) (rq_63_16 hI126) ?_
      refine s_iload_n kx_204_66 rfl ?_
      refine s_aload_n kx_204_67 rfl ?_
      refine s_iconst (v := 1) kx_204_68 (by decide) ?_
      refine s_bipush (v := 9) kx_204_69 (by decide) ?_
      refine s_callV2 (k := 63) (s1 := 3) (s2 := 2) (as := [(0, 9), (0, 1)]) (rest := [(0, ((8 * v1) + v2)), rf 66]) kx_204_71 kp_204_398 (Or.inl rfl) rfl (tk_63 hT) ki_188 kcl_188 rfl rfl (by decide) (f_188 (d := d) (low := 1) (high := 9) hT hI126 v125p.1 v125p.2.2.2.2 hn) (kW (fun v129 M130 hI130 fr130 v129p => ?_))
      have hFm130 := hFm126.call fr130 rfl
      have tr131 := (fr130 63 36 rfl)
      have tr132 := rg_63_9 hI130
      have hk133 : M130 63 36 = v1 := ((fr130 63 36 rfl).trans ((fr126 63 36 rfl).trans ((u116.2 63 36 (by omega)).trans ((fr112 63 36 rfl).trans ((fr106 63 36 rfl).trans v1e)))))
      refine r_ast (k := 66) kx_204_74 (tk_66 hT) ⟨by omega, by omega⟩ hI130 ru_66 (fun M134 hI134 u134 => ?_)
      have hFm134 := hFm130.up u134 rfl
      have tr135 := (u134.2 63 3 (by omega))
      have tr136 := (u134.2 63 4 (by omega))
      have tr137 := (u134.2 63 5 (by omega))
      have tr138 := (u134.2 63 9 (by omega))
      have tr139 := (u134.2 63 10 (by omega))
      have tr140 := (u134.2 63 36 (by omega))
      have hkx141 := (KB.up8 (KB.fr (KB.fr hkx123 fr126 rfl) fr130 rfl) u134 (by decide) ⟨by omega, by omega⟩)
      have hRS142 := RSD.upk (RSD.fr (RSD.fr hRS124 fr126 rfl) fr130 rfl) u134 (by omega) ⟨by omega, by omega⟩ (by omega)
      refine s_aload_n kx_204_75 rfl ?_
      refine s_ldc2_w kx_204_76 kp_204_293 ?_
      refine s_callV2 (k := 63) (s1 := 3) (s2 := 0) (as := [(1, 439905906546)]) (rest := []) kx_204_79 kp_204_394 (Or.inl rfl) rfl (tk_63 hT) ki_200 kcl_200 rfl rfl (by decide) (f_200 (d := d) (w := 439905906546) hT hI134 (LXp.up v129p.1 u134 (Or.inl (by decide))) (Yst.up v129p.2.2.2.2.1 u134 ⟨by decide, Or.inl (by decide)⟩) hn (w5 := 214416960) n58_floor (Or.inr (by decide)) (by omega)) (kV (fun M144 hI144 fr144 v143p => ?_))
      have hFm144 := hFm134.call fr144 rfl
      have tr145 := (fr144 63 36 rfl)
      have tr146 := rg_63_9 hI144
      refine s_aload_n kx_204_82 rfl ?_
      refine r_getR (k := 63) (f := 17) (k2 := 67) kx_204_83 kp_204_63 (tk_63 hT) kf_12_17 (by decide) (rq_63_17 hI144) ?_
      refine s_iload_n kx_204_86 rfl ?_
      refine s_aload_n kx_204_87 rfl ?_
      refine s_iconst (v := 1) kx_204_88 (by decide) ?_
      refine s_bipush (v := 99) kx_204_89 (by decide) ?_
      refine s_callV2 (k := 63) (s1 := 3) (s2 := 2) (as := [(0, 99), (0, 1)]) (rest := [(0, ((8 * v1) + v2)), rf 67]) kx_204_91 kp_204_398 (Or.inl rfl) rfl (tk_63 hT) ki_188 kcl_188 rfl rfl (by decide) (f_188 (d := d) (low := 1) (high := 99) hT hI144 v143p.1 v143p.2.2.2.2 hn) (kW (fun v147 M148 hI148 fr148 v147p => ?_))
      have hFm148 := hFm144.call fr148 rfl
      have tr149 := (fr148 63 36 rfl)
      have tr150 := rg_63_9 hI148
      have hk151 : M148 63 36 = v1 := ((fr148 63 36 rfl).trans ((fr144 63 36 rfl).trans ((u134.2 63 36 (by omega)).trans ((fr130 63 36 rfl).trans ((fr126 63 36 rfl).trans ((u116.2 63 36 (by omega)).trans ((fr112 63 36 rfl).trans ((fr106 63 36 rfl).trans v1e))))))))
      refine r_ast (k := 67) kx_204_94 (tk_67 hT) ⟨by omega, by omega⟩ hI148 ru_67 (fun M152 hI152 u152 => ?_)
      have hFm152 := hFm148.up u152 rfl
      have tr153 := (u152.2 63 3 (by omega))
      have tr154 := (u152.2 63 4 (by omega))
      have tr155 := (u152.2 63 5 (by omega))
      have tr156 := (u152.2 63 9 (by omega))
      have tr157 := (u152.2 63 10 (by omega))
      have tr158 := (u152.2 63 36 (by omega))
      have hkx159 := (KB.up8 (KB.fr (KB.fr hkx141 fr144 rfl) fr148 rfl) u152 (by decide) ⟨by omega, by omega⟩)
      have hRS160 := RSD.upk (RSD.fr (RSD.fr hRS142 fr144 rfl) fr148 rfl) u152 (by omega) ⟨by omega, by omega⟩ (by omega)
      refine s_iconst (v := 0) kx_204_95 (by decide) ?_
      refine s_istore_n kx_204_96 km_204_2 rfl ?_
      have key163 : ∀ n164 : Nat, ∀ (x2_161 : Int), ∀ M162 : cM, Rng M162 → Fr gS_204_m M M162 → Fr gS_204_l97 M152 M162 → (0 ≤ x2_161) → (x2_161 ≤ 8) → (KB bX WX M162) → (RSD M162 D) → (∀ j : Nat, (j : Int) < x2_161 → M162 68 (64 * M 63 36 + 8 * D 0 0 + (j : Int)).toNat = 0 ∧ M162 68 (64 * M 63 36 + 8 * (j : Int) + D 0 0).toNat = 0) → (2147483647 - x2_161).toNat < n164 → cP k_P xs Ln (d + 3) 204 97 [(0, rf 63), (1, (0, ((8 * v1) + v2))), (2, (0, x2_161))] [] (T, M162) (qV T M gS_204_m (fun M1 => (LXp M1 ∧ M 63 4 ≤ M1 63 4 ∧ M 63 9 ≤ M1 63 9 ∧ (PRd M M1) ∧ Yst M1 s n (owRoomF s n D q) (owRoomP s n q) ∧ (owRoomF s n D q = 0 → RSD M1 (owRoomD s n D q))) ∧ KB bX WX M1)) := by
        intro n164
        induction n164 with
        | zero => intro x2_161 M162 hI162 hFm162 fl162 i165 i166 i167 i168 i169 hm170; exact absurd hm170 (Nat.not_lt_zero _)
        | succ n164 ih171 =>
          intro x2_161 M162 hI162 hFm162 fl162 i165 i166 i167 i168 i169 hm170
          have tr172 := fl162 63 4 rfl
          have tr173 := fl162 63 9 rfl
          have tr174 := rg_63_9 hI162
          have tr175 : M162 63 36 = M 63 36 := ((fl162 63 36 rfl).trans ((u152.2 63 36 (by omega)).trans ((fr148 63 36 rfl).trans ((fr144 63 36 rfl).trans ((u134.2 63 36 (by omega)).trans ((fr130 63 36 rfl).trans ((fr126 63 36 rfl).trans ((u116.2 63 36 (by omega)).trans ((fr112 63 36 rfl).trans (fr106 63 36 rfl))))))))))
          refine s_iload_n kx_204_97 rfl ?_
          refine s_bipush (v := 8) kx_204_98 (by decide) ?_
          refine s_icmp_ge (t := 149) kx_204_100 (by decide) (fun hc176 => ?_) (fun hc176 => ?_)
          · refine s_aload_n kx_204_149 rfl ?_
            refine r_getI (k := 63) (f := 9) kx_204_150 kp_204_39 (tk_63 hT) kf_12_9 (fun _ => rfl) (rg_63_9 hI162) (fun v177 v177e v177a v177b => ?_)
            refine s_if_ne (t := 169) kx_204_153 (by decide) (fun hc178 => ?_) (fun hc178 => ?_)
            · have hk179 : M162 63 9 = v177 := v177e
              exact s_vret kx_204_169 kq_204 ⟨_, rfl, rfl, hI162, hFm162, ⟨⟨(LXp.fr (LXp.up v147p.1 u152 (Or.inl (by decide))) fl162 rfl), by omega, by omega, by unfold PRd; omega, ⟨(by rw [← room_seq (s := s) (n := n) (D := D) ⟨hq0, hqn⟩ (by omega)]; exact (Yst.fr (Yst.up v147p.2.2.2.2.1 u152 ⟨by decide, Or.inl (by decide)⟩) fl162 rfl)), fun g => by rw [← room_seq (s := s) (n := n) (D := D) ⟨hq0, hqn⟩ (by omega)] at g; exact absurd g (Yst.pos (Yst.fr (Yst.up v147p.2.2.2.2.1 u152 ⟨by decide, Or.inl (by decide)⟩) fl162 rfl) (by omega)).1⟩⟩, i167⟩⟩
            · refine s_aload_n kx_204_156 rfl ?_
              refine r_getR (k := 63) (f := 15) (k2 := 65) kx_204_157 kp_204_57 (tk_63 hT) kf_12_15 (by decide) (rq_63_15 hI162) ?_
              refine s_aload_n kx_204_160 rfl ?_
              refine r_getK (k := 63) (f := 36) kx_204_161 kp_204_121 (tk_63 hT) kf_12_36 (fun _ => rfl) ((fl162 63 36 rfl).trans ((u152.2 63 36 (by omega)).trans ((fr148 63 36 rfl).trans ((fr144 63 36 rfl).trans ((u134.2 63 36 (by omega)).trans ((fr130 63 36 rfl).trans ((fr126 63 36 rfl).trans ((u116.2 63 36 (by omega)).trans ((fr112 63 36 rfl).trans ((fr106 63 36 rfl).trans v1e)))))))))) ?_
              refine s_dup2 kx_204_164 rfl rfl ?_
              refine r_aldK (k := 65) kx_204_165 (tk_65 hT) ⟨by omega, by omega⟩ ((fl162 65 _ rfl).trans ((u152.2 65 _ (by omega)).trans ((fr148 65 _ rfl).trans ((fr144 65 _ rfl).trans ((u134.2 65 _ (by omega)).trans ((fr130 65 _ rfl).trans ((fr126 65 _ rfl).trans ((u116.2 65 _ (by omega)).trans ((fr112 65 _ rfl).trans ((fr106 65 _ rfl).trans v2e)))))))))) ?_
              refine s_iconst (v := 1) kx_204_166 (by decide) ?_
              refine r_add kx_204_167 ⟨by omega, by omega⟩ ?_
              refine r_ast (k := 65) kx_204_168 (tk_65 hT) ⟨by omega, by omega⟩ hI162 (ru_65 (by omega) (by omega)) (fun M180 hI180 u180 => ?_)
              have hFm180 := hFm162.up u180 rfl
              have tr181 := (u180.2 63 3 (by omega))
              have tr182 := (u180.2 63 4 (by omega))
              have tr183 := (u180.2 63 5 (by omega))
              have tr184 := (u180.2 63 9 (by omega))
              have tr185 := (u180.2 63 10 (by omega))
              have tr186 := (u180.2 63 36 (by omega))
              have hkx187 := (KB.up1 i167 u180 (by decide) ⟨by omega, by omega⟩)
              have hk188 : M180 63 9 = v177 := ((u180.2 63 9 (by omega)).trans v177e)
              exact s_vret kx_204_169 kq_204 ⟨_, rfl, rfl, hI180, hFm180, ⟨⟨(LXp.up (LXp.fr (LXp.up v147p.1 u152 (Or.inl (by decide))) fl162 rfl) u180 (Or.inl (by decide))), by omega, by omega, by unfold PRd; omega, ⟨(by rw [← room_seq (s := s) (n := n) (D := D) ⟨hq0, hqn⟩ (by omega)]; exact (Yst.up (Yst.fr (Yst.up v147p.2.2.2.2.1 u152 ⟨by decide, Or.inl (by decide)⟩) fl162 rfl) u180 ⟨by decide, Or.inl (by decide)⟩)), fun _ => RSD.addR i168 ((fl162 63 36 rfl).trans ((u152.2 63 36 (by omega)).trans ((fr148 63 36 rfl).trans ((fr144 63 36 rfl).trans ((u134.2 63 36 (by omega)).trans ((fr130 63 36 rfl).trans ((fr126 63 36 rfl).trans ((u116.2 63 36 (by omega)).trans ((fr112 63 36 rfl).trans ((fr106 63 36 rfl).trans v1e)))))))))) (by omega) (by omega) (by omega) (fun j hj => by have hz9_ := i169 j (by omega); rw [show M 63 36 = v1 by omega] at hz9_; exact hz9_) (by rw [(show (8 * v1 + D 0 0).toNat = (((8 * v1) + v2)).toNat by congr 1; omega), ((fl162 83 _ rfl).trans ((u152.2 83 _ (by omega)).trans ((fr148 83 _ rfl).trans ((fr144 83 _ rfl).trans ((u134.2 83 _ (by omega)).trans ((fr130 83 _ rfl).trans ((fr126 83 _ rfl).trans u116.1)))))))]; exact v111p.2.2.2.2.2 (yMu_f (yNu_f (yMu_f (yNu_f (Yst.zero (Yst.fr (Yst.up v147p.2.2.2.2.1 u152 ⟨by decide, Or.inl (by decide)⟩) fl162 rfl) (by omega)).1))))) (by rw [(show (8 * v1 + D 0 0).toNat = (((8 * v1) + v2)).toNat by congr 1; omega), ((fl162 66 _ rfl).trans ((u152.2 66 _ (by omega)).trans ((fr148 66 _ rfl).trans ((fr144 66 _ rfl).trans u134.1))))]; exact v129p.2.2.2.2.2 (yMu_f (yNu_f (Yst.zero (Yst.fr (Yst.up v147p.2.2.2.2.1 u152 ⟨by decide, Or.inl (by decide)⟩) fl162 rfl) (by omega)).1))) (by rw [(show (8 * v1 + D 0 0).toNat = (((8 * v1) + v2)).toNat by congr 1; omega), ((fl162 67 _ rfl).trans u152.1)]; exact v147p.2.2.2.2.2 (Yst.zero (Yst.fr (Yst.up v147p.2.2.2.2.1 u152 ⟨by decide, Or.inl (by decide)⟩) fl162 rfl) (by omega)).1) (by rw [show D 0 0 + 1 = (v2 + 1) by omega]; exact u180)⟩⟩, hkx187⟩⟩
          · refine s_aload_n kx_204_103 rfl ?_
            refine r_getR (k := 63) (f := 18) (k2 := 68) kx_204_104 kp_204_66 (tk_63 hT) kf_12_18 (by decide) (rq_63_18 hI162) ?_
            refine s_bipush (v := 8) kx_204_107 (by decide) ?_
            refine s_iload_n kx_204_109 rfl ?_
            refine r_mul kx_204_110 ⟨by omega, by omega⟩ ?_
            refine s_iload_n kx_204_111 rfl ?_
            refine r_add kx_204_112 ⟨by omega, by omega⟩ ?_
            refine s_iconst (v := 0) kx_204_113 (by decide) ?_
            refine r_ast (k := 68) kx_204_114 (tk_68 hT) ⟨by omega, by omega⟩ hI162 (ru_68 (by omega) (by omega)) (fun M189 hI189 u189 => ?_)
            have hFm189 := hFm162.up u189 rfl
            have hFl97189 := fl162.up u189 rfl
            have tr190 := (u189.2 63 3 (by omega))
            have tr191 := (u189.2 63 4 (by omega))
            have tr192 := (u189.2 63 5 (by omega))
            have tr193 := (u189.2 63 9 (by omega))
            have tr194 := (u189.2 63 10 (by omega))
            have tr195 := (u189.2 63 36 (by omega))
            have hkx196 := (KB.up64 i167 u189 ⟨by omega, by omega⟩)
            refine s_aload_n kx_204_115 rfl ?_
            refine r_getR (k := 63) (f := 18) (k2 := 68) kx_204_116 kp_204_66 (tk_63 hT) kf_12_18 (by decide) (rq_63_18 hI189) ?_
            refine s_bipush (v := 8) kx_204_119 (by decide) ?_
            refine s_bipush (v := 8) kx_204_121 (by decide) ?_
            refine s_aload_n kx_204_123 rfl ?_
            refine r_getK (k := 63) (f := 36) kx_204_124 kp_204_121 (tk_63 hT) kf_12_36 (fun _ => rfl) ((u189.2 63 36 (by omega)).trans ((fl162 63 36 rfl).trans ((u152.2 63 36 (by omega)).trans ((fr148 63 36 rfl).trans ((fr144 63 36 rfl).trans ((u134.2 63 36 (by omega)).trans ((fr130 63 36 rfl).trans ((fr126 63 36 rfl).trans ((u116.2 63 36 (by omega)).trans ((fr112 63 36 rfl).trans ((fr106 63 36 rfl).trans v1e))))))))))) ?_
            refine r_mul kx_204_127 ⟨by omega, by omega⟩ ?_
            refine s_iload_n kx_204_128 rfl ?_
            refine r_add kx_204_129 ⟨by omega, by omega⟩ ?_
            refine r_mul kx_204_130 ⟨by omega, by omega⟩ ?_
            refine s_aload_n kx_204_131 rfl ?_
            refine r_getR (k := 63) (f := 15) (k2 := 65) kx_204_132 kp_204_57 (tk_63 hT) kf_12_15 (by decide) (rq_63_15 hI189) ?_
            refine s_aload_n kx_204_135 rfl ?_
            refine r_getK (k := 63) (f := 36) kx_204_136 kp_204_121 (tk_63 hT) kf_12_36 (fun _ => rfl) ((u189.2 63 36 (by omega)).trans ((fl162 63 36 rfl).trans ((u152.2 63 36 (by omega)).trans ((fr148 63 36 rfl).trans ((fr144 63 36 rfl).trans ((u134.2 63 36 (by omega)).trans ((fr130 63 36 rfl).trans ((fr126 63 36 rfl).trans ((u116.2 63 36 (by omega)).trans ((fr112 63 36 rfl).trans ((fr106 63 36 rfl).trans v1e))))))))))) ?_
            refine r_aldK (k := 65) kx_204_139 (tk_65 hT) ⟨by omega, by omega⟩ ((u189.2 65 _ (by omega)).trans ((fl162 65 _ rfl).trans ((u152.2 65 _ (by omega)).trans ((fr148 65 _ rfl).trans ((fr144 65 _ rfl).trans ((u134.2 65 _ (by omega)).trans ((fr130 65 _ rfl).trans ((fr126 65 _ rfl).trans ((u116.2 65 _ (by omega)).trans ((fr112 65 _ rfl).trans ((fr106 65 _ rfl).trans v2e))))))))))) ?_
            refine r_add kx_204_140 ⟨by omega, by omega⟩ ?_
            refine s_iconst (v := 0) kx_204_141 (by decide) ?_
            refine r_ast (k := 68) kx_204_142 (tk_68 hT) ⟨by omega, by omega⟩ hI189 (ru_68 (by omega) (by omega)) (fun M197 hI197 u197 => ?_)
            have hFm197 := hFm189.up u197 rfl
            have hFl97197 := hFl97189.up u197 rfl
            have tr198 := (u197.2 63 3 (by omega))
            have tr199 := (u197.2 63 4 (by omega))
            have tr200 := (u197.2 63 5 (by omega))
            have tr201 := (u197.2 63 9 (by omega))
            have tr202 := (u197.2 63 10 (by omega))
            have tr203 := (u197.2 63 36 (by omega))
            have hkx204 := (KB.up64 hkx196 u197 ⟨by omega, by omega⟩)
            refine r_iinc kx_204_143 rfl km_204_2 (by decide) ⟨by omega, by omega⟩ rfl ?_
            refine s_goto (t := 97) kx_204_146 (by decide) ?_
            exact cP.wk (lS1 rfl (lS1 rfl (lS1 rfl lS0))) (ih171 (x2_161 + 1) M197 hI197 hFm197 hFl97197 (by omega) (by omega) hkx204 (RSD.up68 (RSD.up68 i168 rfl (by omega) u189 (by omega) (fun a b ha hb => by omega)) rfl (by omega) u197 (by omega) (fun a b ha hb => by omega)) (wz_step i169 u189 u197 (by omega) (by omega) ⟨by omega, by omega, by omega⟩) (by omega))
      exact cP.wk (lS1 rfl (lS1 rfl (lS1 rfl lS0))) (key163 _ 0 M152 hI152 hFm152 Fr.refl (by omega) (by omega) hkx159 hRS160 (fun j hj => absurd hj (by omega)) (Nat.lt_succ_self _))
    · have hc205 := v105p.2.2.2.resolve_left (by omega)
      have hc205a := hc205.2.1
      exact s_vret kx_204_26 kq_204 ⟨_, rfl, rfl, hI106, hFm106, ⟨⟨v105p.1, by omega, by omega, by unfold PRd; omega, ⟨(Or.inl (by rw [show owRoomF s n D q = 60000 + owB s n q by unfold owRoomF; (repeat' split) <;> omega]; exact hc205.2.2.1)), fun g => by exfalso; rw [show owRoomF s n D q = 60000 + owB s n q by unfold owRoomF; (repeat' split) <;> omega] at g; exact hc205.2.2.1.1 g⟩⟩, (KB.fr hKX fr106 rfl)⟩⟩
