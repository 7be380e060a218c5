/-! goesOn -/
def StG (M : cM) (s : Nat → Int) (n : Int) (a : pRa) (r : pSs ⊕ pRs) (v : Int) : Prop := match r with
  | .inl τ => v = 1 ∧ M 63 46 = τ.1 ∧ QJ M τ.2.1 0 ∧ M 63 9 = 0 ∧ LyA M s n τ.2.2.2 ∧ RCo M a τ.2.2.1
  | .inr r => v = 0 ∧ ((r.1 ≠ 0 ∧ FlY M r.1) ∨ (r.1 = 0 ∧ M 63 9 = 0 ∧ LyA M s n r.2.1 ∧ RCo M a r.2.2))
section GO
variable {M : cM} {s : Nat → Int} {n p v k ph bg pr : Int} {b : pRa} {ops : List Int} {fs : List pF} {cs : List Int}
theorem StG.l {r : pSs ⊕ pRs} {o : Int} {gs : List pF} {c : List Int} {q : Int} (h : r = .inl (o, gs, c, q)) (hv : v = 1) (ho : M 63 46 = o) (h1 : QJ M gs 0) (h2 : M 63 9 = 0) (h3 : LyA M s n q) (h4 : RCo M b c) : StG M s n b r v := by
  rw [h]
  exact ⟨hv, ho, h1, h2, h3, h4⟩
theorem StG.r {r : pSs ⊕ pRs} {f q : Int} {c : List Int} (h : r = .inr (f, q, c)) (hv : v = 0) (h1 : f ≠ 0 ∧ FlY M f) : StG M s n b r v := by
  rw [h]
  exact ⟨hv, Or.inl h1⟩
theorem StG.d {r : pSs ⊕ pRs} {q : Int} {c : List Int} (h : r = .inr (0, q, c)) (hv : v = 0) (h2 : M 63 9 = 0) (h3 : LyA M s n q) (h4 : RCo M b c) : StG M s n b r v := by
  rw [h]
  exact ⟨hv, Or.inr ⟨rfl, h2, h3, h4⟩⟩
theorem g5 (h5 : owK s n p = 5) : pSt s n (1, (k, ph, bg, pr, ops) :: fs, cs, p) = .inr (owU s n p, p, cs) := by
  rw [pGo_s]
  unfold pGo
  rw [if_pos h5]
theorem g_ao {l a : Int} (h5 : owK s n p ≠ 5) (hp : ph < 2) (ha : a = owAo s n p) (h0 : a ≠ 0) (hl : (l = 5 ∧ a ≤ 11) ∨ (l = 6 ∧ 12 ≤ a)) : pSt s n (1, (k, ph, bg, pr, ops) :: fs, cs, p) = .inl (0, (k, ph, bg, pr, a :: pJo l ops) :: fs, (pJ l ops cs).2, owE s n p) := by
  subst ha
  rw [pGo_s]
  unfold pGo
  rw [if_neg h5, if_pos ⟨hp, h0⟩, show (if owAo s n p ≤ 11 then (5 : Int) else 6) = l by (split <;> omega), pJo_eq]
/-- no arithmetic sign that counts here -/
def nAo (s : Nat → Int) (n p ph : Int) : Prop := ¬ (ph < 2 ∧ owAo s n p ≠ 0)
theorem g_co {a : Int} (h5 : owK s n p ≠ 5) (hA : nAo s n p ph) (hk : pT k) (hp : ph = 0) (ha : a = owCo s n p) (h0 : a ≠ 0) : pSt s n (1, (k, ph, bg, pr, ops) :: fs, cs, p) = .inl (0, (k, 1, bg, pr, a :: pJo 5 ops) :: fs, (pJ 5 ops cs).2, owE s n p) := by
  subst ha
  rw [pGo_s]
  unfold pGo
  rw [if_neg h5, if_neg hA, if_pos ⟨⟨hk, hp⟩, h0⟩, pJo_eq]
def nCo (s : Nat → Int) (n p k ph : Int) : Prop := ¬ ((pT k ∧ ph = 0) ∧ owCo s n p ≠ 0)
theorem g_bo0 (h5 : owK s n p ≠ 5) (hA : nAo s n p ph) (hC : nCo s n p k ph) (hk : pT k) (hp : ph = 0) : pSt s n (1, (k, ph, bg, pr, ops) :: fs, cs, p) = .inr (owU s n p, p, cs) := by
  rw [pGo_s]
  unfold pGo
  rw [if_neg h5, if_neg hA, if_neg hC]
  by_cases hb : owBo s n p = 0
  · rw [if_neg (fun g => g.2 hb), if_pos ⟨hk, hp⟩]
  · rw [if_pos ⟨hk, hb⟩, if_pos hp]
theorem g_bo {l a : Int} (h5 : owK s n p ≠ 5) (hA : nAo s n p ph) (hC : nCo s n p k ph) (hk : pT k) (hp : ph ≠ 0) (ha : a = owBo s n p) (hl : (l = 2 ∧ a = 20) ∨ (l = 1 ∧ a = 21)) : pSt s n (1, (k, ph, bg, pr, ops) :: fs, cs, p) = .inl (0, (k, 0, 1, pr, a :: pJo l ops) :: fs, (pJ l ops cs).2, owE s n p) := by
  subst ha
  rw [pGo_s]
  unfold pGo
  rw [if_neg h5, if_neg hA, if_neg hC, if_pos ⟨hk, by omega⟩, if_neg hp, show (if owBo s n p = 20 then (2 : Int) else 1) = l by (split <;> omega), pJo_eq]
/-- neither and nor or, nor a test without its comparison -/
def nB1 (s : Nat → Int) (n p k : Int) : Prop := ¬ (pT k ∧ owBo s n p ≠ 0)
def nBo (s : Nat → Int) (n p k ph : Int) : Prop := nB1 s n p k ∧ ¬ (pT k ∧ ph = 0)
theorem g_end (h5 : owK s n p ≠ 5) (hA : nAo s n p ph) (hC : nCo s n p k ph) (hB : nBo s n p k ph) (hk : k < 2) : pSt s n (1, (k, ph, bg, pr, ops) :: fs, cs, p) = .inr (0, p, (pJ 1 ops cs).2) := by
  rw [pGo_s]
  unfold pGo
  rw [if_neg h5, if_neg hA, if_neg hC, if_neg hB.1, if_neg hB.2, if_pos hk]
theorem pJo_1 : ∀ (ops : List Int), pJo 1 ops = []
  | [] => rfl
  | o :: os => by
    unfold pJo
    rw [if_pos (rk_rng o).1]
    exact pJo_1 os
theorem g_cm {x : Int} (h5 : owK s n p ≠ 5) (hA : nAo s n p ph) (hC : nCo s n p k ph) (hB : nBo s n p k ph) (hk : k = 3 ∨ k = 6) (hg : owG s n p 44 = 1) (hx : (k = 3 ∧ x = 4) ∨ (k ≠ 3 ∧ x = 3)) : pSt s n (1, (k, ph, bg, pr, ops) :: fs, cs, p) = .inl (0, (x, 0, bg, pr, []) :: fs, (pJ 1 ops cs).2, owE s n p) := by
  rw [pGo_s]
  unfold pGo
  rw [if_neg h5, if_neg hA, if_neg hC, if_neg hB.1, if_neg hB.2, if_neg (by omega), if_pos hk, if_neg (by omega), pJo_eq, pJo_1, show (if k = 3 then (4 : Int) else 3) = x by (split <;> omega)]
theorem g_cmx (h5 : owK s n p ≠ 5) (hA : nAo s n p ph) (hC : nCo s n p k ph) (hB : nBo s n p k ph) (hk : k = 3 ∨ k = 6) (hg : owG s n p 44 = 0) : pSt s n (1, (k, ph, bg, pr, ops) :: fs, cs, p) = .inr (owU s n p, p, cs) := by
  rw [pGo_s]
  unfold pGo
  rw [if_neg h5, if_neg hA, if_neg hC, if_neg hB.1, if_neg hB.2, if_neg (by omega), if_pos hk, if_pos hg]
theorem g_clx {c : Int} (h5 : owK s n p ≠ 5) (hA : nAo s n p ph) (hC : nCo s n p k ph) (hB : nBo s n p k ph) (hk : 2 ≤ k ∧ k ≠ 3 ∧ k ≠ 6) (hc : (k = 5 ∧ c = 93) ∨ (k ≠ 5 ∧ c = 41)) (hg : owG s n p c = 0) : pSt s n (1, (k, ph, bg, pr, ops) :: fs, cs, p) = .inr (owU s n p, p, cs) := by
  rw [pGo_s]
  unfold pGo
  rw [if_neg h5, if_neg hA, if_neg hC, if_neg hB.1, if_neg hB.2, if_neg (by omega), if_neg (by omega), if_pos (by rw [show (if k = 5 then (93 : Int) else 41) = c by (split <;> omega)]; exact hg)]
theorem g_cl {c k2 ph2 bg2 pr2 x : Int} {ops2 : List Int} {gs : List pF} (h5 : owK s n p ≠ 5) (hA : nAo s n p ph) (hC : nCo s n p k ph) (hB : nBo s n p k ph) (hk : 2 ≤ k ∧ k ≠ 3 ∧ k ≠ 6) (hc : (k = 5 ∧ c = 93) ∨ (k ≠ 5 ∧ c = 41)) (hg : owG s n p c = 1) (hx : (k = 5 ∧ x = 2) ∨ (k ≠ 5 ∧ x = ph2)) : pSt s n (1, (k, ph, bg, pr, ops) :: (k2, ph2, bg2, pr2, ops2) :: gs, cs, p) = .inl (1, (k2, x, bg2, pr2, ops2) :: gs, if k = 4 then (3 - pr) :: (pJ 1 ops cs).2 else (pJ 1 ops cs).2, owE s n p) := by
  rw [pGo_s]
  unfold pGo
  rw [if_neg h5, if_neg hA, if_neg hC, if_neg hB.1, if_neg hB.2, if_neg (by omega), if_neg (by omega), if_neg (by rw [show (if k = 5 then (93 : Int) else 41) = c by (split <;> omega)]; omega)]
  dsimp only
  rw [show (if k = 5 then (2 : Int) else ph2) = x by (split <;> omega)]
theorem ao_z (h1 : owG s n p 43 = 0) (h2 : owG s n p 45 = 0) (h3 : owG s n p 42 = 0) (h4 : owG s n p 47 = 0) (h5 : owG s n p 37 = 0) : owAo s n p = 0 := ao_n5 (ao_n6 h3 h4 h5) h1 h2
theorem ao_ge (h1 : owG s n p 43 = 0) (h2 : owG s n p 45 = 0) (h : owAo s n p ≠ 0) : 12 ≤ owAo s n p := by
  unfold owAo at h ⊢
  (repeat' split) <;> (repeat' split at h) <;> omega
theorem ao_14 (h1 : owG s n p 43 = 0) (h2 : owG s n p 45 = 0) (h3 : owG s n p 42 = 0) (h4 : owG s n p 47 = 0) (h : owAo s n p ≠ 0) : owAo s n p = 14 := by
  unfold owAo at h ⊢
  (repeat' split) <;> (repeat' split at h) <;> omega
theorem co_19 (h1 : owG s n p 60 = 0) (h2 : owG s n p 62 = 0) (h : owCo s n p ≠ 0) : owCo s n p = 19 := by
  unfold owCo at h ⊢
  (repeat' split) <;> (repeat' split at h) <;> omega
theorem QJ.j1 {e : Int} (h : QJ M ((k, ph, bg, pr, pJo 1 ops) :: fs) e) : QJ M ((k, ph, bg, pr, []) :: fs) e := by
  rw [pJo_1] at h
  exact h
theorem QJ.two {e : Int} (h : QJ M ((k, ph, bg, pr, ops) :: fs) e) (hd : 2 ≤ M 63 42) : ∃ k2 ph2 bg2 pr2 ops2 gs, fs = (k2, ph2, bg2, pr2, ops2) :: gs := by
  have := h.2.2.1
  rw [List.length_cons] at this
  cases fs with
  | nil =>
    rw [List.length_nil] at this
    omega
  | cons G gs => exact ⟨G.1, G.2.1, G.2.2.1, G.2.2.2.1, G.2.2.2.2, gs, rfl⟩
end GO
def gS_197_j189 : List (Nat × Nat) := [(63, 13), (63, 3), (63, 35), (63, 4), (63, 43), (63, 45), (63, 46), (63, 5), (63, 6), (63, 7), (63, 8), (81, 99999), (82, 99999), (86, 99999), (90, 99999)]
def gS_197_j286 : List (Nat × Nat) := [(63, 10), (63, 13), (63, 3), (63, 35), (63, 4), (63, 43), (63, 45), (63, 46), (63, 5), (63, 6), (63, 7), (63, 8), (63, 9), (81, 99999), (82, 99999), (86, 99999), (87, 99999), (90, 99999)]
def gS_197_j39 : List (Nat × Nat) := [(63, 13), (63, 3), (63, 35), (63, 4), (63, 43), (63, 45), (63, 46), (63, 5), (63, 6), (63, 7), (63, 8), (81, 99999), (82, 99999), (90, 99999)]
def gS_197_j401 : List (Nat × Nat) := [(63, 10), (63, 9)]
def gS_197_j443 : List (Nat × Nat) := [(63, 10), (63, 13), (63, 3), (63, 35), (63, 4), (63, 42), (63, 43), (63, 45), (63, 5), (63, 6), (63, 7), (63, 8), (63, 9), (81, 99999), (82, 99999), (86, 99999)]
def gS_197_m : List (Nat × Nat) := [(63, 10), (63, 13), (63, 3), (63, 35), (63, 4), (63, 42), (63, 43), (63, 45), (63, 46), (63, 5), (63, 6), (63, 7), (63, 8), (63, 9), (81, 99999), (82, 99999), (85, 99999), (86, 99999), (87, 99999), (90, 99999)]
def gS_197_j48 : List (Nat × Nat) := []
def gS_197_j94 : List (Nat × Nat) := []
def gS_197_j122 : List (Nat × Nat) := []
def gS_197_j207 : List (Nat × Nat) := []
def gS_197_j240 : List (Nat × Nat) := []
def gS_197_j296 : List (Nat × Nat) := []
def gS_197_j348 : List (Nat × Nat) := []
def gS_197_j362 : List (Nat × Nat) := []
def gS_197_j491 : List (Nat × Nat) := []
set_option maxHeartbeats 16000000 in
theorem f_197 {xs : Nat → Int} {Ln d : Nat} {T : List cK} {M : cM} (hT : TT T) (hI : Rng M) (hX : LXp M) {s : Nat → Int} {n p : Int} (hn : n ≤ 1600) (hL : LyA M s n p) (h9 : M 63 9 = 0) {k_ ph bg pr : Int} {os_ : List Int} {fs_ : List pF} (hQ : QJ M ((k_, ph, bg, pr, os_) :: fs_) 0) {cs : List Int} {ra : pRa} (hRC : RCo M ra cs) (h46 : M 63 46 = 1) {c : Nat → Int} {a q : Int} (hP : PI M c a 1 7 q 0) (hB : B0 M) {bX : Int} {WX : cM} (hKX : KB bX WX M) (p0 : q ≤ M 63 4) : cC k_P xs Ln (d + 2) 197 [rf 63] (T, M) (qW T M gS_197_m 0 (fun v M1 => (0 ≤ v ∧ v ≤ 1 ∧ (LXp M1 ∧ M 63 4 ≤ M1 63 4 ∧ M 63 9 ≤ M1 63 9 ∧ (GOd M M1 c a v ∧ KP M M1) ∧ (StG M1 s n ra (pSt s n (1, (k_, ph, bg, pr, os_) :: fs_, cs, p)) v))) ∧ KB bX WX M1)) := by
  show cP k_P xs Ln (d + 2) 197 0 [(0, rf 63)] [] (T, M) _
  have hFm : Fr gS_197_m M M := Fr.refl
  have h639 := rg_63_9 hI
  have ⟨lx1, lx2⟩ := hX
  have hd := PI.deep hP
  have hs := PI.small hP (rg_63_43 hI).2 (by decide)
  have hs1 := hs.1
  have hs2 := hs.2.1
  have h4 := rg_63_4 hI
  have h43 := rg_63_43 hI
  have h5 := rg_63_5 hI
  have h45 := rg_63_45 hI
  have hkx1 := hKX.1
  have hkx2 := hKX.2.1
  have hkx3 := hKX.2.2.1
  refine s_aload_n kx_197_0 rfl ?_
  refine s_callV2 (k := 63) (s1 := 1) (s2 := 0) (as := []) (rest := []) kx_197_1 kp_197_280 (Or.inl rfl) rfl (tk_63 hT) ki_179 kcl_179 rfl rfl (by decide) (f_179 (d := d) hT hI (show Yst M s n 0 p from Or.inr ⟨rfl, h9, hL⟩) hn) (kV (fun M2 hI2 fr2 v1p => ?_))
  have hFm2 := hFm.call fr2 rfl
  have tr3 := (fr2 63 3 rfl)
  have tr4 := (fr2 63 4 rfl)
  have tr5 := (fr2 63 5 rfl)
  have tr6 := (fr2 63 35 rfl)
  have tr7 := (fr2 63 42 rfl)
  have tr8 := (fr2 63 43 rfl)
  have tr9 := (fr2 63 45 rfl)
  have tr10 := (fr2 63 46 rfl)
  have tr11 := (fr2 63 36 rfl)
  have tr12 := rg_63_9 hI2
  refine s_aload_n kx_197_4 rfl ?_
  refine r_getI (k := 63) (f := 9) kx_197_5 kp_197_39 (tk_63 hT) kf_12_9 (fun _ => rfl) (rg_63_9 hI2) (fun v13 v13e v13a v13b => ?_)
  refine s_if_le (t := 13) kx_197_8 (by decide) (fun hc14 => ?_) (fun hc14 => ?_)
  · have hz := Yst.zero v1p.1 (by omega)
    have hzk := yLx_0 hz.1 hz.2.2.2.1
    have hK5 := hzk.2
    have hzb := hz.2.b hn
    have hzp := hz.2.2.2.1
    have hzn := hz.2.2.2.2.1
    refine s_aload_n kx_197_13 rfl ?_
    refine r_getI (k := 63) (f := 42) kx_197_14 kp_197_140 (tk_63 hT) kf_12_42 (fun _ => rfl) (rg_63_42 hI2) (fun v15 v15e v15a v15b => ?_)
    have v15z : M 63 42 = v15 := ((fr2 63 42 rfl)).symm.trans v15e
    refine s_iconst (v := 1) kx_197_17 (by decide) ?_
    refine r_sub kx_197_18 ⟨by omega, by omega⟩ ?_
    have htop := (QJ.fr hQ fr2 rfl).top1
    rw [v15e] at htop
    have ht1 := htop.1
    have ht2 := htop.2.1
    have ht3 := htop.2.2.1
    have ht4 := htop.2.2.2.1
    have ht6 := htop.2.2.2.2.2
    have htl : 0 ≤ ((fs_.length : Nat) : Int) := Int.natCast_nonneg _
    refine s_istore_n kx_197_19 km_197_1 rfl ?_
    refine s_aload_n kx_197_20 rfl ?_
    refine r_getR (k := 63) (f := 37) (k2 := 85) kx_197_21 kp_197_124 (tk_63 hT) kf_12_37 (by decide) (rq_63_37 hI2) ?_
    refine s_iload_n kx_197_24 rfl ?_
    refine r_ald (k := 85) kx_197_25 (tk_85 hT) ⟨by omega, by omega⟩ (rg_85 hI2) (fun v16 v16e v16a v16b => ?_)
    refine s_istore_n kx_197_26 km_197_2 rfl ?_
    refine s_iload_n kx_197_27 rfl ?_
    refine s_callS2 (s1 := 1) (s2 := 0) (as := [(0, v16)]) (rest := []) kx_197_28 kp_197_358 rfl kcl_195 rfl rfl (by decide) (f_195 (d := d + 1) (kind := v16) hT hI2) (kF (fun v17 v17p => ?_))
    refine s_istore_n kx_197_31 km_197_3 rfl ?_
    refine s_aload_n kx_197_32 rfl ?_
    refine r_getR (k := 63) (f := 38) (k2 := 86) kx_197_33 kp_197_127 (tk_63 hT) kf_12_38 (by decide) (rq_63_38 hI2) ?_
    refine s_iload_n kx_197_36 rfl ?_
    refine r_ald (k := 86) kx_197_37 (tk_86 hT) ⟨by omega, by omega⟩ (rg_86 hI2) (fun v18 v18e v18a v18b => ?_)
    refine s_iconst (v := 2) kx_197_38 (by decide) ?_
    have jn128 : (nAo s n p ph) → cP k_P xs Ln (d + 2) 197 188 [(0, rf 63), (1, (0, (v15 - 1))), (2, (0, v16)), (3, (0, v17))] [] (T, M2) (qW T M gS_197_m 0 (fun v M1 => (0 ≤ v ∧ v ≤ 1 ∧ (LXp M1 ∧ M 63 4 ≤ M1 63 4 ∧ M 63 9 ≤ M1 63 9 ∧ (GOd M M1 c a v ∧ KP M M1) ∧ (StG M1 s n ra (pSt s n (1, (k_, ph, bg, pr, os_) :: fs_, cs, p)) v))) ∧ KB bX WX M1)) := by
      intro a129
      have hA := a129
      refine s_iload_n kx_197_188 rfl ?_
      have jn231 : (nCo s n p k_ ph) → cP k_P xs Ln (d + 2) 197 285 [(0, rf 63), (1, (0, (v15 - 1))), (2, (0, v16)), (3, (0, v17))] [] (T, M2) (qW T M gS_197_m 0 (fun v M1 => (0 ≤ v ∧ v ≤ 1 ∧ (LXp M1 ∧ M 63 4 ≤ M1 63 4 ∧ M 63 9 ≤ M1 63 9 ∧ (GOd M M1 c a v ∧ KP M M1) ∧ (StG M1 s n ra (pSt s n (1, (k_, ph, bg, pr, os_) :: fs_, cs, p)) v))) ∧ KB bX WX M1)) := by
        intro a232
        have hC := a232
        refine s_iload_n kx_197_285 rfl ?_
        have jn362 : (nB1 s n p k_) → cP k_P xs Ln (d + 2) 197 400 [(0, rf 63), (1, (0, (v15 - 1))), (2, (0, v16)), (3, (0, v17))] [] (T, M2) (qW T M gS_197_m 0 (fun v M1 => (0 ≤ v ∧ v ≤ 1 ∧ (LXp M1 ∧ M 63 4 ≤ M1 63 4 ∧ M 63 9 ≤ M1 63 9 ∧ (GOd M M1 c a v ∧ KP M M1) ∧ (StG M1 s n ra (pSt s n (1, (k_, ph, bg, pr, os_) :: fs_, cs, p)) v))) ∧ KB bX WX M1)) := by
          intro a363
          have hB1 := a363
          refine s_iload_n kx_197_400 rfl ?_
          have jn463 : (nBo s n p k_ ph) → cP k_P xs Ln (d + 2) 197 422 [(0, rf 63), (1, (0, (v15 - 1))), (2, (0, v16))] [] (T, M2) (qW T M gS_197_m 0 (fun v M1 => (0 ≤ v ∧ v ≤ 1 ∧ (LXp M1 ∧ M 63 4 ≤ M1 63 4 ∧ M 63 9 ≤ M1 63 9 ∧ (GOd M M1 c a v ∧ KP M M1) ∧ (StG M1 s n ra (pSt s n (1, (k_, ph, bg, pr, os_) :: fs_, cs, p)) v))) ∧ KB bX WX M1)) := by
            clear hB1 a363 a232 a129 v17p
            intro a464
            have hB9 := a464
            refine s_iload_n kx_197_422 rfl ?_
            refine s_iconst (v := 2) kx_197_423 (by decide) ?_
            refine s_icmp_ge (t := 441) kx_197_424 (by decide) (fun hc465 => ?_) (fun hc465 => ?_)
            · refine s_iload_n kx_197_441 rfl ?_
              refine s_iconst (v := 3) kx_197_442 (by decide) ?_
              have jn677 : (3 ≤ v16) → (v16 = 3 ∨ v16 = 6) → cP k_P xs Ln (d + 2) 197 452 [(0, rf 63), (1, (0, (v15 - 1))), (2, (0, v16))] [] (T, M2) (qW T M gS_197_m 0 (fun v M1 => (0 ≤ v ∧ v ≤ 1 ∧ (LXp M1 ∧ M 63 4 ≤ M1 63 4 ∧ M 63 9 ≤ M1 63 9 ∧ (GOd M M1 c a v ∧ KP M M1) ∧ (StG M1 s n ra (pSt s n (1, (k_, ph, bg, pr, os_) :: fs_, cs, p)) v))) ∧ KB bX WX M1)) := by
                intro a678 a679
                refine s_aload_n kx_197_452 rfl ?_
                refine s_bipush (v := 44) kx_197_453 (by decide) ?_
                refine s_callV2 (k := 63) (s1 := 2) (s2 := 0) (as := [(0, 44)]) (rest := []) kx_197_455 kp_197_283 (Or.inl rfl) rfl (tk_63 hT) ki_181 kcl_181 rfl rfl (by decide) (m_181 (d := d + 1) (c := 44) hT hI2) (kF (fun v680 v680p => ?_))
                have hiss681 := (hz.2.iss (c := 44))
                refine s_if_ne (t := 470) kx_197_458 (by decide) (fun hc682 => ?_) (fun hc682 => ?_)
                · replace v680p := v680p.resolve_right (by omega)
                  refine s_aload_n kx_197_470 rfl ?_
                  refine r_getK (k := 63) (f := 9) kx_197_471 kp_197_39 (tk_63 hT) kf_12_9 (fun _ => rfl) v13e ?_
                  refine s_if_le (t := 479) kx_197_474 (by decide) (fun hc683 => ?_) (fun hc683 => absurd hc683 (by omega))
                  refine s_aload_n kx_197_479 rfl ?_
                  refine s_iconst (v := 1) kx_197_480 (by decide) ?_
                  refine s_callV2 (k := 63) (s1 := 2) (s2 := 0) (as := [(0, 1)]) (rest := []) kx_197_481 kp_197_370 (Or.inl rfl) rfl (tk_63 hT) ki_191 kcl_191 rfl rfl (by decide) (f_191 (d := d) (least := 1) hT hI2 (PI.fr hP fr2 rfl) (QJ.fr hQ fr2 rfl) (RCo.fr hRC fr2 rfl)  (KB.fr hKX fr2 rfl) (by omega) (by omega) (by omega)) (kV (fun M685 hI685 fr685 v684p => ?_))
                  have hFm685 := hFm2.call fr685 rfl
                  have tr686 := (fr685 63 3 rfl)
                  have tr687 := (fr685 63 4 rfl)
                  have tr688 := (fr685 63 5 rfl)
                  have tr689 := (fr685 63 9 rfl)
                  have tr690 := (fr685 63 42 rfl)
                  have tr691 := (fr685 63 10 rfl)
                  have tr692 := (fr685 63 46 rfl)
                  have tr693 := (fr685 63 36 rfl)
                  have tr694 := rg_63_9 hI685
                  have v684pk := v684p.2
                  (replace v684p := v684p.1)
                  have hd695 := PI.deep v684p.1
                  have hs696 := PI.small v684p.1 (rg_63_43 hI685).2 (by decide)
                  have hs696a := hs696.1
                  have hs696b := hs696.2.1
                  have hs696c := rg_63_45 hI685
                  have hK697 := KP.trans (KP.fr (KP.refl (M := M)) fr2 (fun _ => rfl)) (fr2 63 36 rfl) v684p.2.1
                  have hk85698 : M685 85 ((v15 - 1)).toNat = v16 := ((fr685 85 _ rfl).trans v16e)
                  have hqj699 := QJ.j1 v684p.2.2.1
                  refine s_aload_n kx_197_484 rfl ?_
                  refine r_getR (k := 63) (f := 37) (k2 := 85) kx_197_485 kp_197_124 (tk_63 hT) kf_12_37 (by decide) (rq_63_37 hI685) ?_
                  refine s_iload_n kx_197_488 rfl ?_
                  refine s_iload_n kx_197_489 rfl ?_
                  refine s_iconst (v := 3) kx_197_490 (by decide) ?_
                  have jn704 : ∀ (y703 : Int), (3 ≤ y703) → (y703 ≤ 4) → ((v16 = 3 ∧ y703 = 4) ∨ (v16 ≠ 3 ∧ y703 = 3)) → cP k_P xs Ln (d + 2) 197 499 [(0, rf 63), (1, (0, (v15 - 1)))] [(0, y703), (0, (v15 - 1)), rf 85] (T, M685) (qW T M gS_197_m 0 (fun v M1 => (0 ≤ v ∧ v ≤ 1 ∧ (LXp M1 ∧ M 63 4 ≤ M1 63 4 ∧ M 63 9 ≤ M1 63 9 ∧ (GOd M M1 c a v ∧ KP M M1) ∧ (StG M1 s n ra (pSt s n (1, (k_, ph, bg, pr, os_) :: fs_, cs, p)) v))) ∧ KB bX WX M1)) := by
                    intro y703 a705 a706 a707
                    refine r_ast (k := 85) kx_197_499 (tk_85 hT) ⟨by omega, by omega⟩ hI685 (ru_85 (by omega) (by omega)) (fun M708 hI708 u708 => ?_)
                    have hFm708 := hFm685.up u708 rfl
                    have tr709 := (u708.2 63 3 (by omega))
                    have tr710 := (u708.2 63 4 (by omega))
                    have tr711 := (u708.2 63 5 (by omega))
                    have tr712 := (u708.2 63 9 (by omega))
                    have tr713 := (u708.2 63 35 (by omega))
                    have tr714 := (u708.2 63 42 (by omega))
                    have tr715 := (u708.2 63 43 (by omega))
                    have tr716 := (u708.2 63 45 (by omega))
                    have tr717 := (u708.2 63 10 (by omega))
                    have tr718 := (u708.2 63 46 (by omega))
                    have tr719 := (u708.2 63 36 (by omega))
                    have hkx720 := (KB.up0 v684pk u708 (by omega))
                    refine s_aload_n kx_197_500 rfl ?_
                    refine r_getR (k := 63) (f := 38) (k2 := 86) kx_197_501 kp_197_127 (tk_63 hT) kf_12_38 (by decide) (rq_63_38 hI708) ?_
                    refine s_iload_n kx_197_504 rfl ?_
                    refine s_iconst (v := 0) kx_197_505 (by decide) ?_
                    refine r_ast (k := 86) kx_197_506 (tk_86 hT) ⟨by omega, by omega⟩ hI708 (ru_86 (by omega) (by omega)) (fun M721 hI721 u721 => ?_)
                    have hFm721 := hFm708.up u721 rfl
                    have tr722 := (u721.2 63 3 (by omega))
                    have tr723 := (u721.2 63 4 (by omega))
                    have tr724 := (u721.2 63 5 (by omega))
                    have tr725 := (u721.2 63 9 (by omega))
                    have tr726 := (u721.2 63 35 (by omega))
                    have tr727 := (u721.2 63 42 (by omega))
                    have tr728 := (u721.2 63 43 (by omega))
                    have tr729 := (u721.2 63 45 (by omega))
                    have tr730 := (u721.2 63 10 (by omega))
                    have tr731 := (u721.2 63 46 (by omega))
                    have tr732 := (u721.2 63 36 (by omega))
                    have hkx733 := (KB.up0 hkx720 u721 (by omega))
                    refine s_aload_n kx_197_507 rfl ?_
                    refine s_callV2 (k := 63) (s1 := 1) (s2 := 0) (as := []) (rest := []) kx_197_508 kp_197_286 (Or.inl rfl) rfl (tk_63 hT) ki_180 kcl_180 rfl rfl (by decide) (f_180 (d := d) hT hI721 (LyA.up (LyA.up (LyA.fr hz.2 fr685 rfl) u708 ⟨by decide, Or.inl (by decide)⟩) u721 ⟨by decide, Or.inl (by decide)⟩).1 (LyA.up (LyA.up (LyA.fr hz.2 fr685 rfl) u708 ⟨by decide, Or.inl (by decide)⟩) u721 ⟨by decide, Or.inl (by decide)⟩).2.1 (LyA.up (LyA.up (LyA.fr hz.2 fr685 rfl) u708 ⟨by decide, Or.inl (by decide)⟩) u721 ⟨by decide, Or.inl (by decide)⟩).2.2.2.2.2.1 (owE_i2 ⟨(LyA.up (LyA.up (LyA.fr hz.2 fr685 rfl) u708 ⟨by decide, Or.inl (by decide)⟩) u721 ⟨by decide, Or.inl (by decide)⟩).2.2.1, (LyA.up (LyA.up (LyA.fr hz.2 fr685 rfl) u708 ⟨by decide, Or.inl (by decide)⟩) u721 ⟨by decide, Or.inl (by decide)⟩).2.2.2.1⟩).1 (owE_i2 ⟨(LyA.up (LyA.up (LyA.fr hz.2 fr685 rfl) u708 ⟨by decide, Or.inl (by decide)⟩) u721 ⟨by decide, Or.inl (by decide)⟩).2.2.1, (LyA.up (LyA.up (LyA.fr hz.2 fr685 rfl) u708 ⟨by decide, Or.inl (by decide)⟩) u721 ⟨by decide, Or.inl (by decide)⟩).2.2.2.1⟩).2 (LyA.up (LyA.up (LyA.fr hz.2 fr685 rfl) u708 ⟨by decide, Or.inl (by decide)⟩) u721 ⟨by decide, Or.inl (by decide)⟩).2.2.2.2.2.2.2.2.2.2.2.2) (kV (fun M735 hI735 fr735 v734p => ?_))
                    have hFm735 := hFm721.call fr735 rfl
                    have tr736 := (fr735 63 9 rfl)
                    have tr737 := (fr735 63 35 rfl)
                    have tr738 := (fr735 63 42 rfl)
                    have tr739 := (fr735 63 43 rfl)
                    have tr740 := (fr735 63 45 rfl)
                    have tr741 := (fr735 63 10 rfl)
                    have tr742 := (fr735 63 46 rfl)
                    have tr743 := (fr735 63 36 rfl)
                    have tr744 := rg_63_9 hI735
                    refine s_aload_n kx_197_511 rfl ?_
                    refine s_iconst (v := 0) kx_197_512 (by decide) ?_
                    refine r_put (k := 63) (f := 46) kx_197_513 kp_197_152 (tk_63 hT) kf_12_46 rfl (by decide) (by decide) hI735 (ru_63_46 (by omega) (by omega)) (fun M745 hI745 u745 => ?_)
                    have hFm745 := hFm735.up u745 rfl
                    have tr746 := (u745.2 63 3 (by omega))
                    have tr747 := (u745.2 63 4 (by omega))
                    have tr748 := (u745.2 63 5 (by omega))
                    have tr749 := (u745.2 63 9 (by omega))
                    have tr750 := (u745.2 63 35 (by omega))
                    have tr751 := (u745.2 63 42 (by omega))
                    have tr752 := (u745.2 63 43 (by omega))
                    have tr753 := (u745.2 63 45 (by omega))
                    have tr754 := (u745.2 63 10 (by omega))
                    have tr755 := u745.1
                    have tr756 := (u745.2 63 36 (by omega))
                    have hkx757 := (KB.up0 (KB.fr hkx733 fr735 rfl) u745 (by decide))
                    refine s_iconst (v := 1) kx_197_516 (by decide) ?_
                    have hk758 : M745 63 9 = v13 := ((u745.2 63 9 (by omega)).trans ((fr735 63 9 rfl).trans ((u721.2 63 9 (by omega)).trans ((u708.2 63 9 (by omega)).trans ((fr685 63 9 rfl).trans v13e)))))
                    exact s_iret kx_197_517 (Or.inr ⟨kq_197, by omega⟩) ⟨_, _, rfl, rfl, hI745, hFm745, ⟨⟨by omega, by omega, (LXp.up (show LXp M735 from v734p.2.2) u745 (by decide)), (by omega), (by omega), ⟨(Or.inr (Or.inr ⟨rfl, by omega, Or.inl ⟨u745.1, PI.to7 (PI.fr (PI.fr (PI.phase (PI.comma v684p.1 (by omega) (by omega) u708) (Or.inr (by omega)) (by omega) u721) fr735 rfl) (Up.fr u745) rfl) (by omega)⟩⟩)), (KP.up (KP.fr (KP.up (KP.up hK697 u708 (by decide)) u721 (by decide)) fr735 (fun _ => rfl)) u745 (by decide))⟩, (StG.l (g_cm hK5 hA hC hB9 (by omega) (by omega) (by omega)) rfl u745.1 (QJ.up (QJ.fr (QJ.phs (QJ.knd hqj699 (by omega) (by omega) u708) (by omega) u721) fr735 rfl) u745 (by decide)) (by omega) (LyA.up v734p.1 u745 (by decide)) (RCo.up (RCo.fr (RCo.up (RCo.up v684p.2.2.2 u708 ⟨by decide, by decide, Or.inl (by decide)⟩) u721 ⟨by decide, by decide, Or.inl (by decide)⟩) fr735 rfl) u745 (by decide)))⟩, hkx757⟩⟩
                  refine s_icmp_ne (t := 498) kx_197_491 (by decide) (fun hc700 => ?_) (fun hc700 => ?_)
                  · have hJ701 : Fr gS_197_j491 M685 M685 := Fr.refl
                    refine s_iconst (v := 3) kx_197_498 (by decide) ?_
                    exact cP.wk (lS1 rfl (lS1 rfl lS0)) (jn704 3 (by omega) (by omega) (by omega))
                  · have hJ702 : Fr gS_197_j491 M685 M685 := Fr.refl
                    refine s_iconst (v := 4) kx_197_494 (by decide) ?_
                    refine s_goto (t := 499) kx_197_495 (by decide) ?_
                    exact cP.wk (lS1 rfl (lS1 rfl lS0)) (jn704 4 (by omega) (by omega) (by omega))
                · replace v680p := v680p.resolve_left (by omega)
                  refine s_aload_n kx_197_461 rfl ?_
                  refine s_iconst (v := 1) kx_197_462 (by decide) ?_
                  refine s_aload_n kx_197_463 rfl ?_
                  refine r_getI (k := 63) (f := 4) kx_197_464 kp_197_23 (tk_63 hT) kf_12_4 (fun _ => rfl) (rg_63_4 hI2) (fun v759 v759e v759a v759b => ?_)
                  have v759z : M 63 4 = v759 := ((fr2 63 4 rfl)).symm.trans v759e
                  refine s_callV2 (k := 63) (s1 := 3) (s2 := 0) (as := [(0, v759), (0, 1)]) (rest := []) kx_197_467 kp_197_263 (Or.inl rfl) rfl (tk_63 hT) ki_176 kcl_176 rfl rfl (by decide) (f_176 (d := d + 1) (kind := 1) (place := v759) hT hI2 (by omega)) (kV (fun M761 hI761 fr761 v760p => ?_))
                  have hFm761 := hFm2.call fr761 rfl
                  have tr762 := (fr761 63 3 rfl)
                  have tr763 := (fr761 63 4 rfl)
                  have tr764 := (fr761 63 5 rfl)
                  have tr765 := (fr761 63 35 rfl)
                  have tr766 := (fr761 63 42 rfl)
                  have tr767 := (fr761 63 43 rfl)
                  have tr768 := (fr761 63 45 rfl)
                  have tr769 := (fr761 63 46 rfl)
                  have tr770 := (fr761 63 36 rfl)
                  have tr771 := rg_63_9 hI761
                  refine s_aload_n kx_197_470 rfl ?_
                  refine r_getI (k := 63) (f := 9) kx_197_471 kp_197_39 (tk_63 hT) kf_12_9 (fun _ => rfl) (rg_63_9 hI761) (fun v772 v772e v772a v772b => ?_)
                  refine s_if_le (t := 479) kx_197_474 (by decide) (fun hc773 => ?_) (fun hc773 => ?_)
                  · exact absurd h639 (by omega)
                  · refine s_iconst (v := 0) kx_197_477 (by decide) ?_
                    have hk774 : M761 63 4 = v759 := ((fr761 63 4 rfl).trans v759e)
                    have hk775 : M761 63 9 = v772 := v772e
                    exact s_iret kx_197_478 (Or.inr ⟨kq_197, by omega⟩) ⟨_, _, rfl, rfl, hI761, hFm761, ⟨⟨by omega, by omega, (LXp.fr (LXp.fr hX fr2 rfl) fr761 rfl), (by omega), (by omega), ⟨(Or.inl (by omega)), (KP.fr (KP.fr (KP.refl (M := M)) fr2 (fun _ => rfl)) fr761 (fun _ => rfl))⟩, (StG.r (g_cmx hK5 hA hC hB9 (by omega) (by omega)) rfl (owFl2 (k := 1) (x := owB s n p) (by omega) (by omega) (by decide) (by omega) (by unfold owU; rw [if_neg hK5]; omega)))⟩, (KB.fr (KB.fr hKX fr2 rfl) fr761 rfl)⟩⟩
              refine s_icmp_eq (t := 452) kx_197_443 (by decide) (fun hc466 => ?_) (fun hc466 => ?_)
              · have hJ467 : Fr gS_197_j443 M2 M2 := Fr.refl
                exact cP.wk (lS1 rfl (lS1 rfl (lS1 rfl lS0))) (jn677 (by omega) (by omega))
              · have hJ468 : Fr gS_197_j443 M2 M2 := Fr.refl
                refine s_iload_n kx_197_446 rfl ?_
                refine s_bipush (v := 6) kx_197_447 (by decide) ?_
                refine s_icmp_ne (t := 518) kx_197_449 (by decide) (fun hc469 => ?_) (fun hc469 => ?_)
                · refine s_aload_n kx_197_518 rfl ?_
                  refine s_iload_n kx_197_519 rfl ?_
                  refine s_iconst (v := 5) kx_197_520 (by decide) ?_
                  refine s_icmp_ne (t := 529) kx_197_521 (by decide) (fun hc470 => ?_) (fun hc470 => ?_)
                  · refine s_bipush (v := 41) kx_197_529 (by decide) ?_
                    refine s_callV2 (k := 63) (s1 := 2) (s2 := 0) (as := [(0, 41)]) (rest := []) kx_197_531 kp_197_283 (Or.inl rfl) rfl (tk_63 hT) ki_181 kcl_181 rfl rfl (by decide) (m_181 (d := d + 1) (c := 41) hT hI2) (kF (fun v471 v471p => ?_))
                    have hiss472 := (hz.2.iss (c := 41))
                    refine s_if_ne (t := 546) kx_197_534 (by decide) (fun hc473 => ?_) (fun hc473 => ?_)
                    · replace v471p := v471p.resolve_right (by omega)
                      refine s_aload_n kx_197_546 rfl ?_
                      refine r_getK (k := 63) (f := 9) kx_197_547 kp_197_39 (tk_63 hT) kf_12_9 (fun _ => rfl) v13e ?_
                      refine s_if_le (t := 555) kx_197_550 (by decide) (fun hc474 => ?_) (fun hc474 => absurd hc474 (by omega))
                      refine s_aload_n kx_197_555 rfl ?_
                      refine s_iconst (v := 1) kx_197_556 (by decide) ?_
                      refine s_callV2 (k := 63) (s1 := 2) (s2 := 0) (as := [(0, 1)]) (rest := []) kx_197_557 kp_197_370 (Or.inl rfl) rfl (tk_63 hT) ki_191 kcl_191 rfl rfl (by decide) (f_191 (d := d) (least := 1) hT hI2 (PI.fr hP fr2 rfl) (QJ.fr hQ fr2 rfl) (RCo.fr hRC fr2 rfl)  (KB.fr hKX fr2 rfl) (by omega) (by omega) (by omega)) (kV (fun M476 hI476 fr476 v475p => ?_))
                      have hFm476 := hFm2.call fr476 rfl
                      have hFj443476 := hJ468.call fr476 rfl
                      have tr477 := (fr476 63 3 rfl)
                      have tr478 := (fr476 63 4 rfl)
                      have tr479 := (fr476 63 5 rfl)
                      have tr480 := (fr476 63 9 rfl)
                      have tr481 := (fr476 63 42 rfl)
                      have tr482 := (fr476 63 10 rfl)
                      have tr483 := (fr476 63 46 rfl)
                      have tr484 := (fr476 63 36 rfl)
                      have tr485 := rg_63_9 hI476
                      have v475pk := v475p.2
                      (replace v475p := v475p.1)
                      have hd486 := PI.deep v475p.1
                      have hs487 := PI.small v475p.1 (rg_63_43 hI476).2 (by decide)
                      have hs487a := hs487.1
                      have hs487b := hs487.2.1
                      have hs487c := rg_63_45 hI476
                      have hK488 := KP.trans (KP.fr (KP.refl (M := M)) fr2 (fun _ => rfl)) (fr2 63 36 rfl) v475p.2.1
                      have hqj489 := QJ.j1 v475p.2.2.1
                      refine s_aload_n kx_197_560 rfl ?_
                      refine s_dup kx_197_561 rfl ?_
                      refine r_getK (k := 63) (f := 42) kx_197_562 kp_197_140 (tk_63 hT) kf_12_42 (fun _ => rfl) ((fr476 63 42 rfl).trans v15e) ?_
                      refine s_iconst (v := 1) kx_197_565 (by decide) ?_
                      refine r_sub kx_197_566 ⟨by omega, by omega⟩ ?_
                      refine r_put (k := 63) (f := 42) kx_197_567 kp_197_140 (tk_63 hT) kf_12_42 rfl (by decide) (by decide) hI476 (ru_63_42 (by omega) (by omega)) (fun M490 hI490 u490 => ?_)
                      have hFm490 := hFm476.up u490 rfl
                      have hFj443490 := hFj443476.up u490 rfl
                      have tr491 := (u490.2 63 3 (by omega))
                      have tr492 := (u490.2 63 4 (by omega))
                      have tr493 := (u490.2 63 5 (by omega))
                      have tr494 := (u490.2 63 9 (by omega))
                      have tr495 := (u490.2 63 35 (by omega))
                      have tr496 := u490.1
                      have tr497 := (u490.2 63 43 (by omega))
                      have tr498 := (u490.2 63 45 (by omega))
                      have tr499 := (u490.2 63 10 (by omega))
                      have tr500 := (u490.2 63 46 (by omega))
                      have tr501 := (u490.2 63 36 (by omega))
                      have hkx502 := (KB.up0 v475pk u490 (by decide))
                      have hcl503 := PI.close v475p.1 (by decide) (f := (v15 - 1)) (by omega) ((fr476 85 _ rfl).trans v16e) (by omega) u490 (by omega)
                      have hcl503d := hcl503.2.2.1
                      have hcl503q := PI.deep hcl503.1
                      have htp5 : (k_ = 3 ∨ k_ = 4 ∨ k_ = 6) → M476 88 ((v15 - 1)).toNat = pr := fun z => by have z1 := (hqj489).top1.2.2.2.2.1 z; rw [show M476 63 42 - 1 = (v15 - 1) by omega] at z1; exact z1
                      obtain ⟨k2, ph2, bg2, pr2, os2, gs2, rfl⟩ := (hqj489).two (by omega)
                      have hqj504 := QJ.close hqj489 u490 (by omega)
                      refine s_aload_n kx_197_570 rfl ?_
                      refine s_dup kx_197_571 rfl ?_
                      refine r_getI (k := 63) (f := 43) kx_197_572 kp_197_143 (tk_63 hT) kf_12_43 (fun _ => rfl) (rg_63_43 hI490) (fun v505 v505e v505a v505b => ?_)
                      refine s_iconst (v := 1) kx_197_575 (by decide) ?_
                      refine r_sub kx_197_576 ⟨by omega, by omega⟩ ?_
                      have hcl503e := PI.e_le hcl503.1
                      refine r_put (k := 63) (f := 43) kx_197_577 kp_197_143 (tk_63 hT) kf_12_43 rfl (by decide) (by decide) hI490 (ru_63_43 (by omega) (by omega)) (fun M506 hI506 u506 => ?_)
                      have hFm506 := hFm490.up u506 rfl
                      have hFj443506 := hFj443490.up u506 rfl
                      have tr507 := (u506.2 63 3 (by omega))
                      have tr508 := (u506.2 63 4 (by omega))
                      have tr509 := (u506.2 63 5 (by omega))
                      have tr510 := (u506.2 63 9 (by omega))
                      have tr511 := (u506.2 63 35 (by omega))
                      have tr512 := (u506.2 63 42 (by omega))
                      have tr513 := u506.1
                      have tr514 := (u506.2 63 45 (by omega))
                      have tr515 := (u506.2 63 10 (by omega))
                      have tr516 := (u506.2 63 46 (by omega))
                      have tr517 := (u506.2 63 36 (by omega))
                      have hkx518 := (KB.up0 hkx502 u506 (by decide))
                      have hP519 := (PI.opn (e' := 0) hcl503.1 u506 (by omega))
                      refine s_iload_n kx_197_580 rfl ?_
                      refine s_iconst (v := 4) kx_197_581 (by decide) ?_
                      refine s_icmp_ne (t := 596) kx_197_582 (by decide) (fun hc520 => ?_) (fun hc520 => ?_)
                      · have hP521 := PI.comp0 hP519 (by omega)
                        refine s_iload_n kx_197_596 rfl ?_
                        refine s_iconst (v := 5) kx_197_597 (by decide) ?_
                        refine s_icmp_ne (t := 613) kx_197_598 (by decide) (fun hc522 => ?_) (fun hc522 => absurd hc522 (by omega))
                        refine s_aload_n kx_197_613 rfl ?_
                        refine s_callV2 (k := 63) (s1 := 1) (s2 := 0) (as := []) (rest := []) kx_197_614 kp_197_286 (Or.inl rfl) rfl (tk_63 hT) ki_180 kcl_180 rfl rfl (by decide) (f_180 (d := d) hT hI506 (LyA.up (LyA.up (LyA.fr hz.2 fr476 rfl) u490 (by decide)) u506 (by decide)).1 (LyA.up (LyA.up (LyA.fr hz.2 fr476 rfl) u490 (by decide)) u506 (by decide)).2.1 (LyA.up (LyA.up (LyA.fr hz.2 fr476 rfl) u490 (by decide)) u506 (by decide)).2.2.2.2.2.1 (owE_i2 ⟨(LyA.up (LyA.up (LyA.fr hz.2 fr476 rfl) u490 (by decide)) u506 (by decide)).2.2.1, (LyA.up (LyA.up (LyA.fr hz.2 fr476 rfl) u490 (by decide)) u506 (by decide)).2.2.2.1⟩).1 (owE_i2 ⟨(LyA.up (LyA.up (LyA.fr hz.2 fr476 rfl) u490 (by decide)) u506 (by decide)).2.2.1, (LyA.up (LyA.up (LyA.fr hz.2 fr476 rfl) u490 (by decide)) u506 (by decide)).2.2.2.1⟩).2 (LyA.up (LyA.up (LyA.fr hz.2 fr476 rfl) u490 (by decide)) u506 (by decide)).2.2.2.2.2.2.2.2.2.2.2.2) (kV (fun M524 hI524 fr524 v523p => ?_))
                        have hFm524 := hFm506.call fr524 rfl
                        have hFj443524 := hFj443506.call fr524 rfl
                        have tr525 := (fr524 63 9 rfl)
                        have tr526 := (fr524 63 35 rfl)
                        have tr527 := (fr524 63 42 rfl)
                        have tr528 := (fr524 63 43 rfl)
                        have tr529 := (fr524 63 45 rfl)
                        have tr530 := (fr524 63 10 rfl)
                        have tr531 := (fr524 63 46 rfl)
                        have tr532 := (fr524 63 36 rfl)
                        have tr533 := rg_63_9 hI524
                        refine s_iconst (v := 1) kx_197_617 (by decide) ?_
                        have hk534 : M524 63 9 = v13 := ((fr524 63 9 rfl).trans ((u506.2 63 9 (by omega)).trans ((u490.2 63 9 (by omega)).trans ((fr476 63 9 rfl).trans v13e))))
                        exact s_iret kx_197_618 (Or.inr ⟨kq_197, by omega⟩) ⟨_, _, rfl, rfl, hI524, hFm524, ⟨⟨by omega, by omega, (show LXp M524 from v523p.2.2), (by omega), (by omega), ⟨(Or.inr (Or.inr ⟨rfl, by omega, Or.inr ⟨((fr524 63 46 rfl).trans ((u506.2 63 46 (by omega)).trans ((u490.2 63 46 (by omega)).trans ((fr476 63 46 rfl).trans (fr2 63 46 rfl))))), (B0.fr (B0.up (show B0 M490 from hcl503.2.1) u506 (by decide)) fr524 rfl (fun _ => rfl)), PI.to7 (PI.fr hP521 fr524 rfl) (by omega)⟩⟩)), (KP.fr (KP.up (KP.up hK488 u490 (by decide)) u506 (by decide)) fr524 (fun _ => rfl))⟩, (StG.l (g_cl (c := 41) hK5 hA hC hB9 (by omega) (by omega) (by omega) (by omega)) rfl (by omega) (QJ.fr (QJ.opn (e' := 0) hqj504 u506 (by omega)) fr524 rfl) (by omega) v523p.1 (RCo.cast (RCo.fr (RCo.up (RCo.up v475p.2.2.2 u490 (by decide)) u506 (by decide)) fr524 rfl) (if_neg (by omega)).symm))⟩, (KB.fr hkx518 fr524 rfl)⟩⟩
                      · refine s_aload_n kx_197_585 rfl ?_
                        refine s_aload_n kx_197_586 rfl ?_
                        refine r_getR (k := 63) (f := 40) (k2 := 88) kx_197_587 kp_197_134 (tk_63 hT) kf_12_40 (by decide) (rq_63_40 hI506) ?_
                        refine s_iload_n kx_197_590 rfl ?_
                        refine r_ald (k := 88) kx_197_591 (tk_88 hT) ⟨by omega, by omega⟩ (rg_88 hI506) (fun v535 v535e v535a v535b => ?_)
                        have hpr536 : v535 = M476 88 ((v15 - 1)).toNat := (v535e).symm.trans ((u506.2 88 _ (by omega)).trans (u490.2 88 _ (by omega)))
                        refine s_iconst (v := 0) kx_197_592 (by decide) ?_
                        refine s_callV2 (k := 63) (s1 := 3) (s2 := 0) (as := [(0, 0), (0, v535)]) (rest := []) kx_197_593 kp_197_352 (Or.inl rfl) rfl (tk_63 hT) ki_189 kcl_189 rfl rfl (by decide) (f_189 (d := d + 1) (sort := v535) (v_ := 0) hT hI506  hkx518 (by omega) (by omega)) (kV (fun M538 hI538 fr538 v537p => ?_))
                        have hFm538 := hFm506.call fr538 rfl
                        have hFj443538 := hFj443506.call fr538 rfl
                        have tr539 := (fr538 63 3 rfl)
                        have tr540 := (fr538 63 4 rfl)
                        have tr541 := (fr538 63 5 rfl)
                        have tr542 := (fr538 63 9 rfl)
                        have tr543 := (fr538 63 42 rfl)
                        have tr544 := (fr538 63 43 rfl)
                        have tr545 := (fr538 63 45 rfl)
                        have tr546 := (fr538 63 10 rfl)
                        have tr547 := (fr538 63 46 rfl)
                        have tr548 := (fr538 63 36 rfl)
                        have tr549 := rg_63_9 hI538
                        have v537pk := v537p.2
                        (replace v537p := v537p.1)
                        have v537py := v537p.2
                        (replace v537p := v537p.1)
                        have hP550 := PI.code4 hP519 (by omega) (hcl503.2.2.2 (by omega)) fr538 v537p.1 (v537p.2.1.trans hpr536) v537p.2.2
                        have hK551 := KP.add (KP.up (KP.up hK488 u490 (by decide)) u506 (by decide)) ((u506.2 63 36 (by omega)).trans ((u490.2 63 36 (by omega)).trans ((fr476 63 36 rfl).trans (fr2 63 36 rfl)))) ⟨(rg_63_35 hI506).1, by omega⟩ (rg_63_36 hI506).1 v537p.2.2
                        have hrc552 := RCo.push (RCo.up (RCo.up v475p.2.2.2 u490 (by decide)) u506 (by decide)) fr538 rfl v537p.1 v537p.2.1 v537p.2.2 v537py (by have z1 := hpr536; have z2 := hcl503.2.2.2 (by omega); have z3 := htp5 (by omega); exact Or.inr (Or.inr (Or.inr ⟨by omega, by omega, show (3 - pr : Int) = _ by omega⟩)))
                        refine s_iload_n kx_197_596 rfl ?_
                        refine s_iconst (v := 5) kx_197_597 (by decide) ?_
                        refine s_icmp_ne (t := 613) kx_197_598 (by decide) (fun hc553 => ?_) (fun hc553 => absurd hc553 (by omega))
                        refine s_aload_n kx_197_613 rfl ?_
                        refine s_callV2 (k := 63) (s1 := 1) (s2 := 0) (as := []) (rest := []) kx_197_614 kp_197_286 (Or.inl rfl) rfl (tk_63 hT) ki_180 kcl_180 rfl rfl (by decide) (f_180 (d := d) hT hI538 (LyA.fr (LyA.up (LyA.up (LyA.fr hz.2 fr476 rfl) u490 (by decide)) u506 (by decide)) fr538 rfl).1 (LyA.fr (LyA.up (LyA.up (LyA.fr hz.2 fr476 rfl) u490 (by decide)) u506 (by decide)) fr538 rfl).2.1 (LyA.fr (LyA.up (LyA.up (LyA.fr hz.2 fr476 rfl) u490 (by decide)) u506 (by decide)) fr538 rfl).2.2.2.2.2.1 (owE_i2 ⟨(LyA.fr (LyA.up (LyA.up (LyA.fr hz.2 fr476 rfl) u490 (by decide)) u506 (by decide)) fr538 rfl).2.2.1, (LyA.fr (LyA.up (LyA.up (LyA.fr hz.2 fr476 rfl) u490 (by decide)) u506 (by decide)) fr538 rfl).2.2.2.1⟩).1 (owE_i2 ⟨(LyA.fr (LyA.up (LyA.up (LyA.fr hz.2 fr476 rfl) u490 (by decide)) u506 (by decide)) fr538 rfl).2.2.1, (LyA.fr (LyA.up (LyA.up (LyA.fr hz.2 fr476 rfl) u490 (by decide)) u506 (by decide)) fr538 rfl).2.2.2.1⟩).2 (LyA.fr (LyA.up (LyA.up (LyA.fr hz.2 fr476 rfl) u490 (by decide)) u506 (by decide)) fr538 rfl).2.2.2.2.2.2.2.2.2.2.2.2) (kV (fun M555 hI555 fr555 v554p => ?_))
                        have hFm555 := hFm538.call fr555 rfl
                        have hFj443555 := hFj443538.call fr555 rfl
                        have tr556 := (fr555 63 9 rfl)
                        have tr557 := (fr555 63 35 rfl)
                        have tr558 := (fr555 63 42 rfl)
                        have tr559 := (fr555 63 43 rfl)
                        have tr560 := (fr555 63 45 rfl)
                        have tr561 := (fr555 63 10 rfl)
                        have tr562 := (fr555 63 46 rfl)
                        have tr563 := (fr555 63 36 rfl)
                        have tr564 := rg_63_9 hI555
                        refine s_iconst (v := 1) kx_197_617 (by decide) ?_
                        have hk565 : M555 63 9 = v13 := ((fr555 63 9 rfl).trans ((fr538 63 9 rfl).trans ((u506.2 63 9 (by omega)).trans ((u490.2 63 9 (by omega)).trans ((fr476 63 9 rfl).trans v13e)))))
                        exact s_iret kx_197_618 (Or.inr ⟨kq_197, by omega⟩) ⟨_, _, rfl, rfl, hI555, hFm555, ⟨⟨by omega, by omega, (show LXp M555 from v554p.2.2), (by omega), (by omega), ⟨(Or.inr (Or.inr ⟨rfl, by omega, Or.inr ⟨((fr555 63 46 rfl).trans ((fr538 63 46 rfl).trans ((u506.2 63 46 (by omega)).trans ((u490.2 63 46 (by omega)).trans ((fr476 63 46 rfl).trans (fr2 63 46 rfl)))))), (B0.fr (B0.fr (B0.up (show B0 M490 from hcl503.2.1) u506 (by decide)) fr538 rfl (fun _ => rfl)) fr555 rfl (fun _ => rfl)), PI.to7 (PI.fr hP550 fr555 rfl) (by omega)⟩⟩)), (KP.fr hK551 fr555 (fun _ => rfl))⟩, (StG.l (g_cl (c := 41) hK5 hA hC hB9 (by omega) (by omega) (by omega) (by omega)) rfl (by omega) (QJ.fr (QJ.fr (QJ.opn (e' := 0) hqj504 u506 (by omega)) fr538 rfl) fr555 rfl) (by omega) v554p.1 (RCo.cast (RCo.fr hrc552 fr555 rfl) (if_pos (by omega)).symm))⟩, (KB.fr v537pk fr555 rfl)⟩⟩
                    · replace v471p := v471p.resolve_left (by omega)
                      refine s_aload_n kx_197_537 rfl ?_
                      refine s_iconst (v := 1) kx_197_538 (by decide) ?_
                      refine s_aload_n kx_197_539 rfl ?_
                      refine r_getI (k := 63) (f := 4) kx_197_540 kp_197_23 (tk_63 hT) kf_12_4 (fun _ => rfl) (rg_63_4 hI2) (fun v566 v566e v566a v566b => ?_)
                      have v566z : M 63 4 = v566 := ((fr2 63 4 rfl)).symm.trans v566e
                      refine s_callV2 (k := 63) (s1 := 3) (s2 := 0) (as := [(0, v566), (0, 1)]) (rest := []) kx_197_543 kp_197_263 (Or.inl rfl) rfl (tk_63 hT) ki_176 kcl_176 rfl rfl (by decide) (f_176 (d := d + 1) (kind := 1) (place := v566) hT hI2 (by omega)) (kV (fun M568 hI568 fr568 v567p => ?_))
                      have hFm568 := hFm2.call fr568 rfl
                      have hFj443568 := hJ468.call fr568 rfl
                      have tr569 := (fr568 63 3 rfl)
                      have tr570 := (fr568 63 4 rfl)
                      have tr571 := (fr568 63 5 rfl)
                      have tr572 := (fr568 63 35 rfl)
                      have tr573 := (fr568 63 42 rfl)
                      have tr574 := (fr568 63 43 rfl)
                      have tr575 := (fr568 63 45 rfl)
                      have tr576 := (fr568 63 46 rfl)
                      have tr577 := (fr568 63 36 rfl)
                      have tr578 := rg_63_9 hI568
                      refine s_aload_n kx_197_546 rfl ?_
                      refine r_getI (k := 63) (f := 9) kx_197_547 kp_197_39 (tk_63 hT) kf_12_9 (fun _ => rfl) (rg_63_9 hI568) (fun v579 v579e v579a v579b => ?_)
                      refine s_if_le (t := 555) kx_197_550 (by decide) (fun hc580 => ?_) (fun hc580 => ?_)
                      · exact absurd h639 (by omega)
                      · refine s_iconst (v := 0) kx_197_553 (by decide) ?_
                        have hk581 : M568 63 4 = v566 := ((fr568 63 4 rfl).trans v566e)
                        have hk582 : M568 63 9 = v579 := v579e
                        exact s_iret kx_197_554 (Or.inr ⟨kq_197, by omega⟩) ⟨_, _, rfl, rfl, hI568, hFm568, ⟨⟨by omega, by omega, (LXp.fr (LXp.fr hX fr2 rfl) fr568 rfl), (by omega), (by omega), ⟨(Or.inl (by omega)), (KP.fr (KP.fr (KP.refl (M := M)) fr2 (fun _ => rfl)) fr568 (fun _ => rfl))⟩, (StG.r (g_clx (c := 41) hK5 hA hC hB9 (by omega) (by omega) (by omega)) rfl (owFl2 (k := 1) (x := owB s n p) (by omega) (by omega) (by decide) (by omega) (by unfold owU; rw [if_neg hK5]; omega)))⟩, (KB.fr (KB.fr hKX fr2 rfl) fr568 rfl)⟩⟩
                  · refine s_bipush (v := 93) kx_197_524 (by decide) ?_
                    refine s_goto (t := 531) kx_197_526 (by decide) ?_
                    refine s_callV2 (k := 63) (s1 := 2) (s2 := 0) (as := [(0, 93)]) (rest := []) kx_197_531 kp_197_283 (Or.inl rfl) rfl (tk_63 hT) ki_181 kcl_181 rfl rfl (by decide) (m_181 (d := d + 1) (c := 93) hT hI2) (kF (fun v583 v583p => ?_))
                    have hiss584 := (hz.2.iss (c := 93))
                    refine s_if_ne (t := 546) kx_197_534 (by decide) (fun hc585 => ?_) (fun hc585 => ?_)
                    · replace v583p := v583p.resolve_right (by omega)
                      refine s_aload_n kx_197_546 rfl ?_
                      refine r_getK (k := 63) (f := 9) kx_197_547 kp_197_39 (tk_63 hT) kf_12_9 (fun _ => rfl) v13e ?_
                      refine s_if_le (t := 555) kx_197_550 (by decide) (fun hc586 => ?_) (fun hc586 => absurd hc586 (by omega))
                      refine s_aload_n kx_197_555 rfl ?_
                      refine s_iconst (v := 1) kx_197_556 (by decide) ?_
                      refine s_callV2 (k := 63) (s1 := 2) (s2 := 0) (as := [(0, 1)]) (rest := []) kx_197_557 kp_197_370 (Or.inl rfl) rfl (tk_63 hT) ki_191 kcl_191 rfl rfl (by decide) (f_191 (d := d) (least := 1) hT hI2 (PI.fr hP fr2 rfl) (QJ.fr hQ fr2 rfl) (RCo.fr hRC fr2 rfl)  (KB.fr hKX fr2 rfl) (by omega) (by omega) (by omega)) (kV (fun M588 hI588 fr588 v587p => ?_))
                      have hFm588 := hFm2.call fr588 rfl
                      have hFj443588 := hJ468.call fr588 rfl
                      have tr589 := (fr588 63 3 rfl)
                      have tr590 := (fr588 63 4 rfl)
                      have tr591 := (fr588 63 5 rfl)
                      have tr592 := (fr588 63 9 rfl)
                      have tr593 := (fr588 63 42 rfl)
                      have tr594 := (fr588 63 10 rfl)
                      have tr595 := (fr588 63 46 rfl)
                      have tr596 := (fr588 63 36 rfl)
                      have tr597 := rg_63_9 hI588
                      have v587pk := v587p.2
                      (replace v587p := v587p.1)
                      have hd598 := PI.deep v587p.1
                      have hs599 := PI.small v587p.1 (rg_63_43 hI588).2 (by decide)
                      have hs599a := hs599.1
                      have hs599b := hs599.2.1
                      have hs599c := rg_63_45 hI588
                      have hK600 := KP.trans (KP.fr (KP.refl (M := M)) fr2 (fun _ => rfl)) (fr2 63 36 rfl) v587p.2.1
                      have hqj601 := QJ.j1 v587p.2.2.1
                      refine s_aload_n kx_197_560 rfl ?_
                      refine s_dup kx_197_561 rfl ?_
                      refine r_getK (k := 63) (f := 42) kx_197_562 kp_197_140 (tk_63 hT) kf_12_42 (fun _ => rfl) ((fr588 63 42 rfl).trans v15e) ?_
                      refine s_iconst (v := 1) kx_197_565 (by decide) ?_
                      refine r_sub kx_197_566 ⟨by omega, by omega⟩ ?_
                      refine r_put (k := 63) (f := 42) kx_197_567 kp_197_140 (tk_63 hT) kf_12_42 rfl (by decide) (by decide) hI588 (ru_63_42 (by omega) (by omega)) (fun M602 hI602 u602 => ?_)
                      have hFm602 := hFm588.up u602 rfl
                      have hFj443602 := hFj443588.up u602 rfl
                      have tr603 := (u602.2 63 3 (by omega))
                      have tr604 := (u602.2 63 4 (by omega))
                      have tr605 := (u602.2 63 5 (by omega))
                      have tr606 := (u602.2 63 9 (by omega))
                      have tr607 := (u602.2 63 35 (by omega))
                      have tr608 := u602.1
                      have tr609 := (u602.2 63 43 (by omega))
                      have tr610 := (u602.2 63 45 (by omega))
                      have tr611 := (u602.2 63 10 (by omega))
                      have tr612 := (u602.2 63 46 (by omega))
                      have tr613 := (u602.2 63 36 (by omega))
                      have hkx614 := (KB.up0 v587pk u602 (by decide))
                      have hcl615 := PI.close v587p.1 (by decide) (f := (v15 - 1)) (by omega) ((fr588 85 _ rfl).trans v16e) (by omega) u602 (by omega)
                      have hcl615d := hcl615.2.2.1
                      have hcl615q := PI.deep hcl615.1
                      have htp5 : (k_ = 3 ∨ k_ = 4 ∨ k_ = 6) → M588 88 ((v15 - 1)).toNat = pr := fun z => by have z1 := (hqj601).top1.2.2.2.2.1 z; rw [show M588 63 42 - 1 = (v15 - 1) by omega] at z1; exact z1
                      obtain ⟨k2, ph2, bg2, pr2, os2, gs2, rfl⟩ := (hqj601).two (by omega)
                      have hqj616 := QJ.close hqj601 u602 (by omega)
                      refine s_aload_n kx_197_570 rfl ?_
                      refine s_dup kx_197_571 rfl ?_
                      refine r_getI (k := 63) (f := 43) kx_197_572 kp_197_143 (tk_63 hT) kf_12_43 (fun _ => rfl) (rg_63_43 hI602) (fun v617 v617e v617a v617b => ?_)
                      refine s_iconst (v := 1) kx_197_575 (by decide) ?_
                      refine r_sub kx_197_576 ⟨by omega, by omega⟩ ?_
                      have hcl615e := PI.e_le hcl615.1
                      refine r_put (k := 63) (f := 43) kx_197_577 kp_197_143 (tk_63 hT) kf_12_43 rfl (by decide) (by decide) hI602 (ru_63_43 (by omega) (by omega)) (fun M618 hI618 u618 => ?_)
                      have hFm618 := hFm602.up u618 rfl
                      have hFj443618 := hFj443602.up u618 rfl
                      have tr619 := (u618.2 63 3 (by omega))
                      have tr620 := (u618.2 63 4 (by omega))
                      have tr621 := (u618.2 63 5 (by omega))
                      have tr622 := (u618.2 63 9 (by omega))
                      have tr623 := (u618.2 63 35 (by omega))
                      have tr624 := (u618.2 63 42 (by omega))
                      have tr625 := u618.1
                      have tr626 := (u618.2 63 45 (by omega))
                      have tr627 := (u618.2 63 10 (by omega))
                      have tr628 := (u618.2 63 46 (by omega))
                      have tr629 := (u618.2 63 36 (by omega))
                      have hkx630 := (KB.up0 hkx614 u618 (by decide))
                      have hP631 := (PI.opn (e' := 0) hcl615.1 u618 (by omega))
                      refine s_iload_n kx_197_580 rfl ?_
                      refine s_iconst (v := 4) kx_197_581 (by decide) ?_
                      refine s_icmp_ne (t := 596) kx_197_582 (by decide) (fun hc632 => ?_) (fun hc632 => absurd hc632 (by omega))
                      have hP633 := PI.comp0 hP631 (by omega)
                      refine s_iload_n kx_197_596 rfl ?_
                      refine s_iconst (v := 5) kx_197_597 (by decide) ?_
                      refine s_icmp_ne (t := 613) kx_197_598 (by decide) (fun hc634 => absurd hc634 (by omega)) (fun hc634 => ?_)
                      refine s_aload_n kx_197_601 rfl ?_
                      refine r_getR (k := 63) (f := 38) (k2 := 86) kx_197_602 kp_197_127 (tk_63 hT) kf_12_38 (by decide) (rq_63_38 hI618) ?_
                      refine s_aload_n kx_197_605 rfl ?_
                      refine r_getK (k := 63) (f := 42) kx_197_606 kp_197_140 (tk_63 hT) kf_12_42 (fun _ => rfl) ((u618.2 63 42 (by omega)).trans u602.1) ?_
                      refine s_iconst (v := 1) kx_197_609 (by decide) ?_
                      refine r_sub kx_197_610 ⟨by omega, by omega⟩ ?_
                      refine s_iconst (v := 2) kx_197_611 (by decide) ?_
                      refine r_ast (k := 86) kx_197_612 (tk_86 hT) ⟨by omega, by omega⟩ hI618 (ru_86 (by omega) (by omega)) (fun M635 hI635 u635 => ?_)
                      have hFm635 := hFm618.up u635 rfl
                      have hFj443635 := hFj443618.up u635 rfl
                      have tr636 := (u635.2 63 3 (by omega))
                      have tr637 := (u635.2 63 4 (by omega))
                      have tr638 := (u635.2 63 5 (by omega))
                      have tr639 := (u635.2 63 9 (by omega))
                      have tr640 := (u635.2 63 35 (by omega))
                      have tr641 := (u635.2 63 42 (by omega))
                      have tr642 := (u635.2 63 43 (by omega))
                      have tr643 := (u635.2 63 45 (by omega))
                      have tr644 := (u635.2 63 10 (by omega))
                      have tr645 := (u635.2 63 46 (by omega))
                      have tr646 := (u635.2 63 36 (by omega))
                      have hkx647 := (KB.up0 hkx630 u635 (by omega))
                      refine s_aload_n kx_197_613 rfl ?_
                      refine s_callV2 (k := 63) (s1 := 1) (s2 := 0) (as := []) (rest := []) kx_197_614 kp_197_286 (Or.inl rfl) rfl (tk_63 hT) ki_180 kcl_180 rfl rfl (by decide) (f_180 (d := d) hT hI635 (LyA.up (LyA.up (LyA.up (LyA.fr hz.2 fr588 rfl) u602 (by decide)) u618 (by decide)) u635 ⟨by decide, Or.inl (by decide)⟩).1 (LyA.up (LyA.up (LyA.up (LyA.fr hz.2 fr588 rfl) u602 (by decide)) u618 (by decide)) u635 ⟨by decide, Or.inl (by decide)⟩).2.1 (LyA.up (LyA.up (LyA.up (LyA.fr hz.2 fr588 rfl) u602 (by decide)) u618 (by decide)) u635 ⟨by decide, Or.inl (by decide)⟩).2.2.2.2.2.1 (owE_i2 ⟨(LyA.up (LyA.up (LyA.up (LyA.fr hz.2 fr588 rfl) u602 (by decide)) u618 (by decide)) u635 ⟨by decide, Or.inl (by decide)⟩).2.2.1, (LyA.up (LyA.up (LyA.up (LyA.fr hz.2 fr588 rfl) u602 (by decide)) u618 (by decide)) u635 ⟨by decide, Or.inl (by decide)⟩).2.2.2.1⟩).1 (owE_i2 ⟨(LyA.up (LyA.up (LyA.up (LyA.fr hz.2 fr588 rfl) u602 (by decide)) u618 (by decide)) u635 ⟨by decide, Or.inl (by decide)⟩).2.2.1, (LyA.up (LyA.up (LyA.up (LyA.fr hz.2 fr588 rfl) u602 (by decide)) u618 (by decide)) u635 ⟨by decide, Or.inl (by decide)⟩).2.2.2.1⟩).2 (LyA.up (LyA.up (LyA.up (LyA.fr hz.2 fr588 rfl) u602 (by decide)) u618 (by decide)) u635 ⟨by decide, Or.inl (by decide)⟩).2.2.2.2.2.2.2.2.2.2.2.2) (kV (fun M649 hI649 fr649 v648p => ?_))
                      have hFm649 := hFm635.call fr649 rfl
                      have hFj443649 := hFj443635.call fr649 rfl
                      have tr650 := (fr649 63 9 rfl)
                      have tr651 := (fr649 63 35 rfl)
                      have tr652 := (fr649 63 42 rfl)
                      have tr653 := (fr649 63 43 rfl)
                      have tr654 := (fr649 63 45 rfl)
                      have tr655 := (fr649 63 10 rfl)
                      have tr656 := (fr649 63 46 rfl)
                      have tr657 := (fr649 63 36 rfl)
                      have tr658 := rg_63_9 hI649
                      refine s_iconst (v := 1) kx_197_617 (by decide) ?_
                      have hk659 : M649 63 9 = v13 := ((fr649 63 9 rfl).trans ((u635.2 63 9 (by omega)).trans ((u618.2 63 9 (by omega)).trans ((u602.2 63 9 (by omega)).trans ((fr588 63 9 rfl).trans v13e)))))
                      exact s_iret kx_197_618 (Or.inr ⟨kq_197, by omega⟩) ⟨_, _, rfl, rfl, hI649, hFm649, ⟨⟨by omega, by omega, (show LXp M649 from v648p.2.2), (by omega), (by omega), ⟨(Or.inr (Or.inr ⟨rfl, by omega, Or.inr ⟨((fr649 63 46 rfl).trans ((u635.2 63 46 (by omega)).trans ((u618.2 63 46 (by omega)).trans ((u602.2 63 46 (by omega)).trans ((fr588 63 46 rfl).trans (fr2 63 46 rfl)))))), (B0.fr (B0.up (B0.up (show B0 M602 from hcl615.2.1) u618 (by decide)) u635 ⟨by decide, Or.inl (by decide)⟩) fr649 rfl (fun _ => rfl)), PI.to7 (PI.fr (PI.phase hP633 (Or.inl (by decide)) (by omega) u635) fr649 rfl) (by omega)⟩⟩)), (KP.fr (KP.up (KP.up (KP.up hK600 u602 (by decide)) u618 (by decide)) u635 (by decide)) fr649 (fun _ => rfl))⟩, (StG.l (g_cl (c := 93) hK5 hA hC hB9 (by omega) (by omega) (by omega) (by omega)) rfl (by omega) (QJ.fr (QJ.phs (QJ.opn (e' := 0) hqj616 u618 (by omega)) (by omega) u635) fr649 rfl) (by omega) v648p.1 (RCo.cast (RCo.fr (RCo.up (RCo.up (RCo.up v587p.2.2.2 u602 (by decide)) u618 (by decide)) u635 ⟨by decide, by decide, Or.inl (by decide)⟩) fr649 rfl) (if_neg (by omega)).symm))⟩, (KB.fr hkx647 fr649 rfl)⟩⟩
                    · replace v583p := v583p.resolve_left (by omega)
                      refine s_aload_n kx_197_537 rfl ?_
                      refine s_iconst (v := 1) kx_197_538 (by decide) ?_
                      refine s_aload_n kx_197_539 rfl ?_
                      refine r_getI (k := 63) (f := 4) kx_197_540 kp_197_23 (tk_63 hT) kf_12_4 (fun _ => rfl) (rg_63_4 hI2) (fun v660 v660e v660a v660b => ?_)
                      have v660z : M 63 4 = v660 := ((fr2 63 4 rfl)).symm.trans v660e
                      refine s_callV2 (k := 63) (s1 := 3) (s2 := 0) (as := [(0, v660), (0, 1)]) (rest := []) kx_197_543 kp_197_263 (Or.inl rfl) rfl (tk_63 hT) ki_176 kcl_176 rfl rfl (by decide) (f_176 (d := d + 1) (kind := 1) (place := v660) hT hI2 (by omega)) (kV (fun M662 hI662 fr662 v661p => ?_))
                      have hFm662 := hFm2.call fr662 rfl
                      have hFj443662 := hJ468.call fr662 rfl
                      have tr663 := (fr662 63 3 rfl)
                      have tr664 := (fr662 63 4 rfl)
                      have tr665 := (fr662 63 5 rfl)
                      have tr666 := (fr662 63 35 rfl)
                      have tr667 := (fr662 63 42 rfl)
                      have tr668 := (fr662 63 43 rfl)
                      have tr669 := (fr662 63 45 rfl)
                      have tr670 := (fr662 63 46 rfl)
                      have tr671 := (fr662 63 36 rfl)
                      have tr672 := rg_63_9 hI662
                      refine s_aload_n kx_197_546 rfl ?_
                      refine r_getI (k := 63) (f := 9) kx_197_547 kp_197_39 (tk_63 hT) kf_12_9 (fun _ => rfl) (rg_63_9 hI662) (fun v673 v673e v673a v673b => ?_)
                      refine s_if_le (t := 555) kx_197_550 (by decide) (fun hc674 => ?_) (fun hc674 => ?_)
                      · exact absurd h639 (by omega)
                      · refine s_iconst (v := 0) kx_197_553 (by decide) ?_
                        have hk675 : M662 63 4 = v660 := ((fr662 63 4 rfl).trans v660e)
                        have hk676 : M662 63 9 = v673 := v673e
                        exact s_iret kx_197_554 (Or.inr ⟨kq_197, by omega⟩) ⟨_, _, rfl, rfl, hI662, hFm662, ⟨⟨by omega, by omega, (LXp.fr (LXp.fr hX fr2 rfl) fr662 rfl), (by omega), (by omega), ⟨(Or.inl (by omega)), (KP.fr (KP.fr (KP.refl (M := M)) fr2 (fun _ => rfl)) fr662 (fun _ => rfl))⟩, (StG.r (g_clx (c := 93) hK5 hA hC hB9 (by omega) (by omega) (by omega)) rfl (owFl2 (k := 1) (x := owB s n p) (by omega) (by omega) (by decide) (by omega) (by unfold owU; rw [if_neg hK5]; omega)))⟩, (KB.fr (KB.fr hKX fr2 rfl) fr662 rfl)⟩⟩
                · exact cP.wk (lS1 rfl (lS1 rfl (lS1 rfl lS0))) (jn677 (by omega) (by omega))
            · refine s_aload_n kx_197_427 rfl ?_
              refine r_getK (k := 63) (f := 9) kx_197_428 kp_197_39 (tk_63 hT) kf_12_9 (fun _ => rfl) v13e ?_
              refine s_if_ne (t := 439) kx_197_431 (by decide) (fun hc776 => absurd hc776 (by omega)) (fun hc776 => ?_)
              refine s_aload_n kx_197_434 rfl ?_
              refine s_iconst (v := 1) kx_197_435 (by decide) ?_
              refine s_callV2 (k := 63) (s1 := 2) (s2 := 0) (as := [(0, 1)]) (rest := []) kx_197_436 kp_197_370 (Or.inl rfl) rfl (tk_63 hT) ki_191 kcl_191 rfl rfl (by decide) (f_191 (d := d) (least := 1) hT hI2 (PI.fr hP fr2 rfl) (QJ.fr hQ fr2 rfl) (RCo.fr hRC fr2 rfl)  (KB.fr hKX fr2 rfl) (by omega) (by omega) (by omega)) (kV (fun M778 hI778 fr778 v777p => ?_))
              have hFm778 := hFm2.call fr778 rfl
              have tr779 := (fr778 63 3 rfl)
              have tr780 := (fr778 63 4 rfl)
              have tr781 := (fr778 63 5 rfl)
              have tr782 := (fr778 63 9 rfl)
              have tr783 := (fr778 63 42 rfl)
              have tr784 := (fr778 63 10 rfl)
              have tr785 := (fr778 63 46 rfl)
              have tr786 := (fr778 63 36 rfl)
              have tr787 := rg_63_9 hI778
              have v777pk := v777p.2
              (replace v777p := v777p.1)
              have hK788 := KP.trans (KP.fr (KP.refl (M := M)) fr2 (fun _ => rfl)) (fr2 63 36 rfl) v777p.2.1
              refine s_iconst (v := 0) kx_197_439 (by decide) ?_
              have hk789 : M778 63 9 = v13 := ((fr778 63 9 rfl).trans v13e)
              exact s_iret kx_197_440 (Or.inr ⟨kq_197, by omega⟩) ⟨_, _, rfl, rfl, hI778, hFm778, ⟨⟨by omega, by omega, (LXp.fr (LXp.fr hX fr2 rfl) fr778 rfl), (by omega), (by omega), ⟨(if h9 : 1 ≤ M778 63 9 then Or.inl h9 else Or.inr (Or.inl ⟨rfl, PI.to7 v777p.1 (by omega)⟩)), hK788⟩, (StG.d (g_end hK5 hA hC hB9 (by omega)) rfl (by omega) (LyA.fr hz.2 fr778 rfl) v777p.2.2.2)⟩, v777pk⟩⟩
          refine s_if_eq (t := 422) kx_197_401 (by decide) (fun hc364 => ?_) (fun hc364 => ?_)
          · have hJ365 : Fr gS_197_j401 M2 M2 := Fr.refl
            exact cP.wk (lS1 rfl (lS1 rfl (lS1 rfl lS0))) (jn463 ⟨hB1, fun g => by have g1 := g.1; have g2 := g.2; omega⟩)
          · have hJ366 : Fr gS_197_j401 M2 M2 := Fr.refl
            refine s_aload_n kx_197_404 rfl ?_
            refine r_getR (k := 63) (f := 38) (k2 := 86) kx_197_405 kp_197_127 (tk_63 hT) kf_12_38 (by decide) (rq_63_38 hI2) ?_
            refine s_iload_n kx_197_408 rfl ?_
            refine r_aldK (k := 86) kx_197_409 (tk_86 hT) ⟨by omega, by omega⟩ v18e ?_
            refine s_if_ne (t := 422) kx_197_410 (by decide) (fun hc367 => ?_) (fun hc367 => ?_)
            · exact cP.wk (lS1 rfl (lS1 rfl (lS1 rfl lS0))) (jn463 ⟨hB1, fun g => by have g1 := g.1; have g2 := g.2; omega⟩)
            · refine s_aload_n kx_197_413 rfl ?_
              refine s_iconst (v := 1) kx_197_414 (by decide) ?_
              refine s_aload_n kx_197_415 rfl ?_
              refine r_getI (k := 63) (f := 4) kx_197_416 kp_197_23 (tk_63 hT) kf_12_4 (fun _ => rfl) (rg_63_4 hI2) (fun v368 v368e v368a v368b => ?_)
              have v368z : M 63 4 = v368 := ((fr2 63 4 rfl)).symm.trans v368e
              refine s_callV2 (k := 63) (s1 := 3) (s2 := 0) (as := [(0, v368), (0, 1)]) (rest := []) kx_197_419 kp_197_263 (Or.inl rfl) rfl (tk_63 hT) ki_176 kcl_176 rfl rfl (by decide) (f_176 (d := d + 1) (kind := 1) (place := v368) hT hI2 (by omega)) (kV (fun M370 hI370 fr370 v369p => ?_))
              have hFm370 := hFm2.call fr370 rfl
              have hFj401370 := hJ366.call fr370 rfl
              have tr371 := (fr370 63 3 rfl)
              have tr372 := (fr370 63 4 rfl)
              have tr373 := (fr370 63 5 rfl)
              have tr374 := (fr370 63 35 rfl)
              have tr375 := (fr370 63 42 rfl)
              have tr376 := (fr370 63 43 rfl)
              have tr377 := (fr370 63 45 rfl)
              have tr378 := (fr370 63 46 rfl)
              have tr379 := (fr370 63 36 rfl)
              have tr380 := rg_63_9 hI370
              refine s_iload_n kx_197_422 rfl ?_
              refine s_iconst (v := 2) kx_197_423 (by decide) ?_
              refine s_icmp_ge (t := 441) kx_197_424 (by decide) (fun hc381 => ?_) (fun hc381 => ?_)
              · refine s_iload_n kx_197_441 rfl ?_
                refine s_iconst (v := 3) kx_197_442 (by decide) ?_
                have jn433 : (3 ≤ v16) → (v16 = 3 ∨ v16 = 6) → cP k_P xs Ln (d + 2) 197 452 [(0, rf 63), (1, (0, (v15 - 1))), (2, (0, v16))] [] (T, M370) (qW T M gS_197_m 0 (fun v M1 => (0 ≤ v ∧ v ≤ 1 ∧ (LXp M1 ∧ M 63 4 ≤ M1 63 4 ∧ M 63 9 ≤ M1 63 9 ∧ (GOd M M1 c a v ∧ KP M M1) ∧ (StG M1 s n ra (pSt s n (1, (k_, ph, bg, pr, os_) :: fs_, cs, p)) v))) ∧ KB bX WX M1)) := by
                  intro a434 a435
                  refine s_aload_n kx_197_452 rfl ?_
                  refine s_bipush (v := 44) kx_197_453 (by decide) ?_
                  refine s_callV2 (k := 63) (s1 := 2) (s2 := 0) (as := [(0, 44)]) (rest := []) kx_197_455 kp_197_283 (Or.inl rfl) rfl (tk_63 hT) ki_181 kcl_181 rfl rfl (by decide) (m_181 (d := d + 1) (c := 44) hT hI370) (kF (fun v436 v436p => ?_))
                  have hiss437 := ((isS_fr (c := 44) fr370 rfl rfl).trans (hz.2.iss (c := 44)))
                  refine s_if_ne (t := 470) kx_197_458 (by decide) (fun hc438 => ?_) (fun hc438 => ?_)
                  · replace v436p := v436p.resolve_right (by omega)
                    refine s_aload_n kx_197_470 rfl ?_
                    refine r_getI (k := 63) (f := 9) kx_197_471 kp_197_39 (tk_63 hT) kf_12_9 (fun _ => rfl) (rg_63_9 hI370) (fun v439 v439e v439a v439b => ?_)
                    refine s_if_le (t := 479) kx_197_474 (by decide) (fun hc440 => ?_) (fun hc440 => ?_)
                    · exact absurd h639 (by omega)
                    · refine s_iconst (v := 0) kx_197_477 (by decide) ?_
                      have hk441 : M370 63 4 = v368 := ((fr370 63 4 rfl).trans v368e)
                      have hk442 : M370 63 9 = v439 := v439e
                      exact s_iret kx_197_478 (Or.inr ⟨kq_197, by omega⟩) ⟨_, _, rfl, rfl, hI370, hFm370, ⟨⟨by omega, by omega, (LXp.fr (LXp.fr hX fr2 rfl) fr370 rfl), (by omega), (by omega), ⟨(Or.inl (by omega)), (KP.fr (KP.fr (KP.refl (M := M)) fr2 (fun _ => rfl)) fr370 (fun _ => rfl))⟩, (StG.r (g_bo0 hK5 hA hC (by unfold pT; omega) (by omega)) rfl (owFl2 (k := 1) (x := owB s n p) (by omega) (by omega) (by decide) (by omega) (by unfold owU; rw [if_neg hK5]; omega)))⟩, (KB.fr (KB.fr hKX fr2 rfl) fr370 rfl)⟩⟩
                  · replace v436p := v436p.resolve_left (by omega)
                    refine s_aload_n kx_197_461 rfl ?_
                    refine s_iconst (v := 1) kx_197_462 (by decide) ?_
                    refine s_aload_n kx_197_463 rfl ?_
                    refine r_getK (k := 63) (f := 4) kx_197_464 kp_197_23 (tk_63 hT) kf_12_4 (fun _ => rfl) ((fr370 63 4 rfl).trans v368e) ?_
                    refine s_callV2 (k := 63) (s1 := 3) (s2 := 0) (as := [(0, v368), (0, 1)]) (rest := []) kx_197_467 kp_197_263 (Or.inl rfl) rfl (tk_63 hT) ki_176 kcl_176 rfl rfl (by decide) (f_176 (d := d + 1) (kind := 1) (place := v368) hT hI370 (by omega)) (kV (fun M444 hI444 fr444 v443p => ?_))
                    have hFm444 := hFm370.call fr444 rfl
                    have hFj401444 := hFj401370.call fr444 rfl
                    have tr445 := (fr444 63 3 rfl)
                    have tr446 := (fr444 63 4 rfl)
                    have tr447 := (fr444 63 5 rfl)
                    have tr448 := (fr444 63 35 rfl)
                    have tr449 := (fr444 63 42 rfl)
                    have tr450 := (fr444 63 43 rfl)
                    have tr451 := (fr444 63 45 rfl)
                    have tr452 := (fr444 63 46 rfl)
                    have tr453 := (fr444 63 36 rfl)
                    have tr454 := rg_63_9 hI444
                    refine s_aload_n kx_197_470 rfl ?_
                    refine r_getI (k := 63) (f := 9) kx_197_471 kp_197_39 (tk_63 hT) kf_12_9 (fun _ => rfl) (rg_63_9 hI444) (fun v455 v455e v455a v455b => ?_)
                    refine s_if_le (t := 479) kx_197_474 (by decide) (fun hc456 => ?_) (fun hc456 => ?_)
                    · exact absurd h639 (by omega)
                    · refine s_iconst (v := 0) kx_197_477 (by decide) ?_
                      have hk457 : M444 63 4 = v368 := ((fr444 63 4 rfl).trans ((fr370 63 4 rfl).trans v368e))
                      have hk458 : M444 63 9 = v455 := v455e
                      exact s_iret kx_197_478 (Or.inr ⟨kq_197, by omega⟩) ⟨_, _, rfl, rfl, hI444, hFm444, ⟨⟨by omega, by omega, (LXp.fr (LXp.fr (LXp.fr hX fr2 rfl) fr370 rfl) fr444 rfl), (by omega), (by omega), ⟨(Or.inl (by omega)), (KP.fr (KP.fr (KP.fr (KP.refl (M := M)) fr2 (fun _ => rfl)) fr370 (fun _ => rfl)) fr444 (fun _ => rfl))⟩, (StG.r (g_bo0 hK5 hA hC (by unfold pT; omega) (by omega)) rfl (owFl2 (k := 1) (x := owB s n p) (by omega) (by omega) (by decide) (by omega) (by unfold owU; rw [if_neg hK5]; omega)))⟩, (KB.fr (KB.fr (KB.fr hKX fr2 rfl) fr370 rfl) fr444 rfl)⟩⟩
                refine s_icmp_eq (t := 452) kx_197_443 (by decide) (fun hc382 => ?_) (fun hc382 => ?_)
                · have hJ383 : Fr gS_197_j443 M370 M370 := Fr.refl
                  exact cP.wk (lS1 rfl (lS1 rfl (lS1 rfl lS0))) (jn433 (by omega) (by omega))
                · have hJ384 : Fr gS_197_j443 M370 M370 := Fr.refl
                  refine s_iload_n kx_197_446 rfl ?_
                  refine s_bipush (v := 6) kx_197_447 (by decide) ?_
                  refine s_icmp_ne (t := 518) kx_197_449 (by decide) (fun hc385 => ?_) (fun hc385 => ?_)
                  · refine s_aload_n kx_197_518 rfl ?_
                    refine s_iload_n kx_197_519 rfl ?_
                    refine s_iconst (v := 5) kx_197_520 (by decide) ?_
                    refine s_icmp_ne (t := 529) kx_197_521 (by decide) (fun hc386 => ?_) (fun hc386 => ?_)
                    · refine s_bipush (v := 41) kx_197_529 (by decide) ?_
                      refine s_callV2 (k := 63) (s1 := 2) (s2 := 0) (as := [(0, 41)]) (rest := []) kx_197_531 kp_197_283 (Or.inl rfl) rfl (tk_63 hT) ki_181 kcl_181 rfl rfl (by decide) (m_181 (d := d + 1) (c := 41) hT hI370) (kF (fun v387 v387p => ?_))
                      have hiss388 := ((isS_fr (c := 41) fr370 rfl rfl).trans (hz.2.iss (c := 41)))
                      refine s_if_ne (t := 546) kx_197_534 (by decide) (fun hc389 => ?_) (fun hc389 => ?_)
                      · replace v387p := v387p.resolve_right (by omega)
                        refine s_aload_n kx_197_546 rfl ?_
                        refine r_getI (k := 63) (f := 9) kx_197_547 kp_197_39 (tk_63 hT) kf_12_9 (fun _ => rfl) (rg_63_9 hI370) (fun v390 v390e v390a v390b => ?_)
                        refine s_if_le (t := 555) kx_197_550 (by decide) (fun hc391 => ?_) (fun hc391 => ?_)
                        · exact absurd h639 (by omega)
                        · refine s_iconst (v := 0) kx_197_553 (by decide) ?_
                          have hk392 : M370 63 4 = v368 := ((fr370 63 4 rfl).trans v368e)
                          have hk393 : M370 63 9 = v390 := v390e
                          exact s_iret kx_197_554 (Or.inr ⟨kq_197, by omega⟩) ⟨_, _, rfl, rfl, hI370, hFm370, ⟨⟨by omega, by omega, (LXp.fr (LXp.fr hX fr2 rfl) fr370 rfl), (by omega), (by omega), ⟨(Or.inl (by omega)), (KP.fr (KP.fr (KP.refl (M := M)) fr2 (fun _ => rfl)) fr370 (fun _ => rfl))⟩, (StG.r (g_bo0 hK5 hA hC (by unfold pT; omega) (by omega)) rfl (owFl2 (k := 1) (x := owB s n p) (by omega) (by omega) (by decide) (by omega) (by unfold owU; rw [if_neg hK5]; omega)))⟩, (KB.fr (KB.fr hKX fr2 rfl) fr370 rfl)⟩⟩
                      · replace v387p := v387p.resolve_left (by omega)
                        refine s_aload_n kx_197_537 rfl ?_
                        refine s_iconst (v := 1) kx_197_538 (by decide) ?_
                        refine s_aload_n kx_197_539 rfl ?_
                        refine r_getK (k := 63) (f := 4) kx_197_540 kp_197_23 (tk_63 hT) kf_12_4 (fun _ => rfl) ((fr370 63 4 rfl).trans v368e) ?_
                        refine s_callV2 (k := 63) (s1 := 3) (s2 := 0) (as := [(0, v368), (0, 1)]) (rest := []) kx_197_543 kp_197_263 (Or.inl rfl) rfl (tk_63 hT) ki_176 kcl_176 rfl rfl (by decide) (f_176 (d := d + 1) (kind := 1) (place := v368) hT hI370 (by omega)) (kV (fun M395 hI395 fr395 v394p => ?_))
                        have hFm395 := hFm370.call fr395 rfl
                        have hFj401395 := hFj401370.call fr395 rfl
                        have hFj443395 := hJ384.call fr395 rfl
                        have tr396 := (fr395 63 3 rfl)
                        have tr397 := (fr395 63 4 rfl)
                        have tr398 := (fr395 63 5 rfl)
                        have tr399 := (fr395 63 35 rfl)
                        have tr400 := (fr395 63 42 rfl)
                        have tr401 := (fr395 63 43 rfl)
                        have tr402 := (fr395 63 45 rfl)
                        have tr403 := (fr395 63 46 rfl)
                        have tr404 := (fr395 63 36 rfl)
                        have tr405 := rg_63_9 hI395
                        refine s_aload_n kx_197_546 rfl ?_
                        refine r_getI (k := 63) (f := 9) kx_197_547 kp_197_39 (tk_63 hT) kf_12_9 (fun _ => rfl) (rg_63_9 hI395) (fun v406 v406e v406a v406b => ?_)
                        refine s_if_le (t := 555) kx_197_550 (by decide) (fun hc407 => ?_) (fun hc407 => ?_)
                        · exact absurd h639 (by omega)
                        · refine s_iconst (v := 0) kx_197_553 (by decide) ?_
                          have hk408 : M395 63 4 = v368 := ((fr395 63 4 rfl).trans ((fr370 63 4 rfl).trans v368e))
                          have hk409 : M395 63 9 = v406 := v406e
                          exact s_iret kx_197_554 (Or.inr ⟨kq_197, by omega⟩) ⟨_, _, rfl, rfl, hI395, hFm395, ⟨⟨by omega, by omega, (LXp.fr (LXp.fr (LXp.fr hX fr2 rfl) fr370 rfl) fr395 rfl), (by omega), (by omega), ⟨(Or.inl (by omega)), (KP.fr (KP.fr (KP.fr (KP.refl (M := M)) fr2 (fun _ => rfl)) fr370 (fun _ => rfl)) fr395 (fun _ => rfl))⟩, (StG.r (g_bo0 hK5 hA hC (by unfold pT; omega) (by omega)) rfl (owFl2 (k := 1) (x := owB s n p) (by omega) (by omega) (by decide) (by omega) (by unfold owU; rw [if_neg hK5]; omega)))⟩, (KB.fr (KB.fr (KB.fr hKX fr2 rfl) fr370 rfl) fr395 rfl)⟩⟩
                    · refine s_bipush (v := 93) kx_197_524 (by decide) ?_
                      refine s_goto (t := 531) kx_197_526 (by decide) ?_
                      refine s_callV2 (k := 63) (s1 := 2) (s2 := 0) (as := [(0, 93)]) (rest := []) kx_197_531 kp_197_283 (Or.inl rfl) rfl (tk_63 hT) ki_181 kcl_181 rfl rfl (by decide) (m_181 (d := d + 1) (c := 93) hT hI370) (kF (fun v410 v410p => ?_))
                      have hiss411 := ((isS_fr (c := 93) fr370 rfl rfl).trans (hz.2.iss (c := 93)))
                      refine s_if_ne (t := 546) kx_197_534 (by decide) (fun hc412 => ?_) (fun hc412 => ?_)
                      · replace v410p := v410p.resolve_right (by omega)
                        refine s_aload_n kx_197_546 rfl ?_
                        refine r_getI (k := 63) (f := 9) kx_197_547 kp_197_39 (tk_63 hT) kf_12_9 (fun _ => rfl) (rg_63_9 hI370) (fun v413 v413e v413a v413b => ?_)
                        refine s_if_le (t := 555) kx_197_550 (by decide) (fun hc414 => ?_) (fun hc414 => ?_)
                        · exact absurd h639 (by omega)
                        · refine s_iconst (v := 0) kx_197_553 (by decide) ?_
                          have hk415 : M370 63 4 = v368 := ((fr370 63 4 rfl).trans v368e)
                          have hk416 : M370 63 9 = v413 := v413e
                          exact s_iret kx_197_554 (Or.inr ⟨kq_197, by omega⟩) ⟨_, _, rfl, rfl, hI370, hFm370, ⟨⟨by omega, by omega, (LXp.fr (LXp.fr hX fr2 rfl) fr370 rfl), (by omega), (by omega), ⟨(Or.inl (by omega)), (KP.fr (KP.fr (KP.refl (M := M)) fr2 (fun _ => rfl)) fr370 (fun _ => rfl))⟩, (StG.r (g_bo0 hK5 hA hC (by unfold pT; omega) (by omega)) rfl (owFl2 (k := 1) (x := owB s n p) (by omega) (by omega) (by decide) (by omega) (by unfold owU; rw [if_neg hK5]; omega)))⟩, (KB.fr (KB.fr hKX fr2 rfl) fr370 rfl)⟩⟩
                      · replace v410p := v410p.resolve_left (by omega)
                        refine s_aload_n kx_197_537 rfl ?_
                        refine s_iconst (v := 1) kx_197_538 (by decide) ?_
                        refine s_aload_n kx_197_539 rfl ?_
                        refine r_getK (k := 63) (f := 4) kx_197_540 kp_197_23 (tk_63 hT) kf_12_4 (fun _ => rfl) ((fr370 63 4 rfl).trans v368e) ?_
                        refine s_callV2 (k := 63) (s1 := 3) (s2 := 0) (as := [(0, v368), (0, 1)]) (rest := []) kx_197_543 kp_197_263 (Or.inl rfl) rfl (tk_63 hT) ki_176 kcl_176 rfl rfl (by decide) (f_176 (d := d + 1) (kind := 1) (place := v368) hT hI370 (by omega)) (kV (fun M418 hI418 fr418 v417p => ?_))
                        have hFm418 := hFm370.call fr418 rfl
                        have hFj401418 := hFj401370.call fr418 rfl
                        have hFj443418 := hJ384.call fr418 rfl
                        have tr419 := (fr418 63 3 rfl)
                        have tr420 := (fr418 63 4 rfl)
                        have tr421 := (fr418 63 5 rfl)
                        have tr422 := (fr418 63 35 rfl)
                        have tr423 := (fr418 63 42 rfl)
                        have tr424 := (fr418 63 43 rfl)
                        have tr425 := (fr418 63 45 rfl)
                        have tr426 := (fr418 63 46 rfl)
                        have tr427 := (fr418 63 36 rfl)
                        have tr428 := rg_63_9 hI418
                        refine s_aload_n kx_197_546 rfl ?_
                        refine r_getI (k := 63) (f := 9) kx_197_547 kp_197_39 (tk_63 hT) kf_12_9 (fun _ => rfl) (rg_63_9 hI418) (fun v429 v429e v429a v429b => ?_)
                        refine s_if_le (t := 555) kx_197_550 (by decide) (fun hc430 => ?_) (fun hc430 => ?_)
                        · exact absurd h639 (by omega)
                        · refine s_iconst (v := 0) kx_197_553 (by decide) ?_
                          have hk431 : M418 63 4 = v368 := ((fr418 63 4 rfl).trans ((fr370 63 4 rfl).trans v368e))
                          have hk432 : M418 63 9 = v429 := v429e
                          exact s_iret kx_197_554 (Or.inr ⟨kq_197, by omega⟩) ⟨_, _, rfl, rfl, hI418, hFm418, ⟨⟨by omega, by omega, (LXp.fr (LXp.fr (LXp.fr hX fr2 rfl) fr370 rfl) fr418 rfl), (by omega), (by omega), ⟨(Or.inl (by omega)), (KP.fr (KP.fr (KP.fr (KP.refl (M := M)) fr2 (fun _ => rfl)) fr370 (fun _ => rfl)) fr418 (fun _ => rfl))⟩, (StG.r (g_bo0 hK5 hA hC (by unfold pT; omega) (by omega)) rfl (owFl2 (k := 1) (x := owB s n p) (by omega) (by omega) (by decide) (by omega) (by unfold owU; rw [if_neg hK5]; omega)))⟩, (KB.fr (KB.fr (KB.fr hKX fr2 rfl) fr370 rfl) fr418 rfl)⟩⟩
                  · exact cP.wk (lS1 rfl (lS1 rfl (lS1 rfl lS0))) (jn433 (by omega) (by omega))
              · refine s_aload_n kx_197_427 rfl ?_
                refine r_getI (k := 63) (f := 9) kx_197_428 kp_197_39 (tk_63 hT) kf_12_9 (fun _ => rfl) (rg_63_9 hI370) (fun v459 v459e v459a v459b => ?_)
                refine s_if_ne (t := 439) kx_197_431 (by decide) (fun hc460 => ?_) (fun hc460 => ?_)
                · refine s_iconst (v := 0) kx_197_439 (by decide) ?_
                  have hk461 : M370 63 4 = v368 := ((fr370 63 4 rfl).trans v368e)
                  have hk462 : M370 63 9 = v459 := v459e
                  exact s_iret kx_197_440 (Or.inr ⟨kq_197, by omega⟩) ⟨_, _, rfl, rfl, hI370, hFm370, ⟨⟨by omega, by omega, (LXp.fr (LXp.fr hX fr2 rfl) fr370 rfl), (by omega), (by omega), ⟨(Or.inl (by omega)), (KP.fr (KP.fr (KP.refl (M := M)) fr2 (fun _ => rfl)) fr370 (fun _ => rfl))⟩, (StG.r (g_bo0 hK5 hA hC (by unfold pT; omega) (by omega)) rfl (owFl2 (k := 1) (x := owB s n p) (by omega) (by omega) (by decide) (by omega) (by unfold owU; rw [if_neg hK5]; omega)))⟩, (KB.fr (KB.fr hKX fr2 rfl) fr370 rfl)⟩⟩
                · exact absurd h639 (by omega)
        refine s_if_eq (t := 400) kx_197_286 (by decide) (fun hc233 => ?_) (fun hc233 => ?_)
        · have hJ234 : Fr gS_197_j286 M2 M2 := Fr.refl
          exact cP.wk (lS1 rfl (lS1 rfl (lS1 rfl (lS1 rfl lS0)))) (jn362 (fun g => by have g1 := g.1; first | omega | exact g.2 (bo_no (bo_na (by omega)) (by omega))))
        · have hJ235 : Fr gS_197_j286 M2 M2 := Fr.refl
          refine s_aload_n kx_197_289 rfl ?_
          refine s_ldc2_w kx_197_290 kp_197_327 ?_
          refine s_callV2 (k := 63) (s1 := 3) (s2 := 0) (as := [(1, 6385252)]) (rest := []) kx_197_293 kp_197_361 (Or.inl rfl) rfl (tk_63 hT) ki_182 kcl_182 rfl rfl (by decide) (f_182 (d := d + 1) (w := 6385252) hT hI2 hz.2 hK5 (w5 := 48365568) n58_and (Or.inr (by decide)) (by omega)) (kF (fun v236 v236p => ?_))
          have jn242 : (1 ≤ M 63 3) → (owBo s n p = 20 ∨ owBo s n p = 21) → cP k_P xs Ln (d + 2) 197 309 [(0, rf 63), (1, (0, (v15 - 1)))] [] (T, M2) (qW T M gS_197_m 0 (fun v M1 => (0 ≤ v ∧ v ≤ 1 ∧ (LXp M1 ∧ M 63 4 ≤ M1 63 4 ∧ M 63 9 ≤ M1 63 9 ∧ (GOd M M1 c a v ∧ KP M M1) ∧ (StG M1 s n ra (pSt s n (1, (k_, ph, bg, pr, os_) :: fs_, cs, p)) v))) ∧ KB bX WX M1)) := by
            intro a243 a244
            have hbo := a244
            refine s_aload_n kx_197_309 rfl ?_
            refine r_getR (k := 63) (f := 38) (k2 := 86) kx_197_310 kp_197_127 (tk_63 hT) kf_12_38 (by decide) (rq_63_38 hI2) ?_
            refine s_iload_n kx_197_313 rfl ?_
            refine r_aldK (k := 86) kx_197_314 (tk_86 hT) ⟨by omega, by omega⟩ v18e ?_
            refine s_if_ne (t := 327) kx_197_315 (by decide) (fun hc245 => ?_) (fun hc245 => ?_)
            · refine s_aload_n kx_197_327 rfl ?_
              refine r_getK (k := 63) (f := 9) kx_197_328 kp_197_39 (tk_63 hT) kf_12_9 (fun _ => rfl) v13e ?_
              refine s_if_le (t := 336) kx_197_331 (by decide) (fun hc246 => ?_) (fun hc246 => absurd hc246 (by omega))
              refine s_aload_n kx_197_336 rfl ?_
              refine s_ldc2_w kx_197_337 kp_197_327 ?_
              refine s_callV2 (k := 63) (s1 := 3) (s2 := 0) (as := [(1, 6385252)]) (rest := []) kx_197_340 kp_197_361 (Or.inl rfl) rfl (tk_63 hT) ki_182 kcl_182 rfl rfl (by decide) (f_182 (d := d + 1) (w := 6385252) hT hI2 hz.2 hK5 (w5 := 48365568) n58_and (Or.inr (by decide)) (by omega)) (kF (fun v247 v247p => ?_))
              have hnd : (v247 = 1 ∧ owBo s n p = 20) ∨ (v247 = 0 ∧ owBo s n p = 21) := by rcases v247p with z | z; exact Or.inl ⟨z.1, bo_and z.2.2⟩; exact Or.inr ⟨z.1, by have hna := bo_na z.2; omega⟩
              refine s_istore kx_197_343 km_197_4 rfl ?_
              refine s_aload_n kx_197_345 rfl ?_
              refine s_iload kx_197_346 rfl ?_
              have jn252 : ∀ (y251 : Int), (1 ≤ y251) → (y251 ≤ 2) → ((y251 = 2 ∧ v247 ≠ 0) ∨ (y251 = 1 ∧ v247 = 0)) → cP k_P xs Ln (d + 2) 197 356 [(0, rf 63), (1, (0, (v15 - 1))), (4, (0, v247))] [(0, y251), rf 63] (T, M2) (qW T M gS_197_m 0 (fun v M1 => (0 ≤ v ∧ v ≤ 1 ∧ (LXp M1 ∧ M 63 4 ≤ M1 63 4 ∧ M 63 9 ≤ M1 63 9 ∧ (GOd M M1 c a v ∧ KP M M1) ∧ (StG M1 s n ra (pSt s n (1, (k_, ph, bg, pr, os_) :: fs_, cs, p)) v))) ∧ KB bX WX M1)) := by
                intro y251 a253 a254 a255
                refine s_callV2 (k := 63) (s1 := 2) (s2 := 0) (as := [(0, y251)]) (rest := []) kx_197_356 kp_197_370 (Or.inl rfl) rfl (tk_63 hT) ki_191 kcl_191 rfl rfl (by decide) (f_191 (d := d) (least := y251) hT hI2 (PI.fr hP fr2 rfl) (QJ.fr hQ fr2 rfl) (RCo.fr hRC fr2 rfl)  (KB.fr hKX fr2 rfl) (by omega) (by omega) (by omega)) (kV (fun M257 hI257 fr257 v256p => ?_))
                have hFm257 := hFm2.call fr257 rfl
                have hFj286257 := hJ235.call fr257 rfl
                have tr258 := (fr257 63 3 rfl)
                have tr259 := (fr257 63 4 rfl)
                have tr260 := (fr257 63 5 rfl)
                have tr261 := (fr257 63 9 rfl)
                have tr262 := (fr257 63 42 rfl)
                have tr263 := (fr257 63 10 rfl)
                have tr264 := (fr257 63 46 rfl)
                have tr265 := (fr257 63 36 rfl)
                have tr266 := rg_63_9 hI257
                have v256pk := v256p.2
                (replace v256p := v256p.1)
                have hd267 := PI.deep v256p.1
                have hs268 := PI.small v256p.1 (rg_63_43 hI257).2 (by decide)
                have hs268a := hs268.1
                have hs268b := hs268.2.1
                have hs268c := rg_63_45 hI257
                have hK269 := KP.trans (KP.fr (KP.refl (M := M)) fr2 (fun _ => rfl)) (fr2 63 36 rfl) v256p.2.1
                refine s_aload_n kx_197_359 rfl ?_
                refine s_iload kx_197_360 rfl ?_
                have jn274 : ∀ (y273 : Int), (20 ≤ y273) → (y273 ≤ 21) → ((y273 = 20 ∧ v247 ≠ 0) ∨ (y273 = 21 ∧ v247 = 0)) → (y273 = owBo s n p) → cP k_P xs Ln (d + 2) 197 372 [(0, rf 63), (1, (0, (v15 - 1)))] [(0, y273), rf 63] (T, M257) (qW T M gS_197_m 0 (fun v M1 => (0 ≤ v ∧ v ≤ 1 ∧ (LXp M1 ∧ M 63 4 ≤ M1 63 4 ∧ M 63 9 ≤ M1 63 9 ∧ (GOd M M1 c a v ∧ KP M M1) ∧ (StG M1 s n ra (pSt s n (1, (k_, ph, bg, pr, os_) :: fs_, cs, p)) v))) ∧ KB bX WX M1)) := by
                  intro y273 a275 a276 a277 a278
                  refine s_callV2 (k := 63) (s1 := 2) (s2 := 0) (as := [(0, y273)]) (rest := []) kx_197_372 kp_197_364 (Or.inl rfl) rfl (tk_63 hT) ki_192 kcl_192 rfl rfl (by decide) (m_192 (d := d + 1) (op := y273) hT hI257 (by omega) (by omega)) (kV (fun M280 hI280 fr280 v279p => ?_))
                  have hFm280 := hFm257.call fr280 rfl
                  have hFj286280 := hFj286257.call fr280 rfl
                  have tr281 := (fr280 63 3 rfl)
                  have tr282 := (fr280 63 4 rfl)
                  have tr283 := (fr280 63 5 rfl)
                  have tr284 := (fr280 63 9 rfl)
                  have tr285 := (fr280 63 35 rfl)
                  have tr286 := (fr280 63 42 rfl)
                  have tr287 := (fr280 63 43 rfl)
                  have tr288 := (fr280 63 10 rfl)
                  have tr289 := (fr280 63 46 rfl)
                  have tr290 := (fr280 63 36 rfl)
                  have tr291 := rg_63_9 hI280
                  have hqj292 := QJ.hold (e' := 0) v256p.2.2.1 fr280 v279p.1 v279p.2.1 v279p.2.2 (by rw [if_neg (by omega)]; omega)
                  have hP293 := PI.holdL v256p.1 (B0.fr (B0.fr hB fr2 rfl (fun _ => rfl)) fr257 rfl (fun _ => rfl)) (by omega) fr280 v279p.1 v279p.2.1 v279p.2.2
                  refine s_aload_n kx_197_375 rfl ?_
                  refine r_getR (k := 63) (f := 38) (k2 := 86) kx_197_376 kp_197_127 (tk_63 hT) kf_12_38 (by decide) (rq_63_38 hI280) ?_
                  refine s_iload_n kx_197_379 rfl ?_
                  refine s_iconst (v := 0) kx_197_380 (by decide) ?_
                  refine r_ast (k := 86) kx_197_381 (tk_86 hT) ⟨by omega, by omega⟩ hI280 (ru_86 (by omega) (by omega)) (fun M294 hI294 u294 => ?_)
                  have hFm294 := hFm280.up u294 rfl
                  have hFj286294 := hFj286280.up u294 rfl
                  have tr295 := (u294.2 63 3 (by omega))
                  have tr296 := (u294.2 63 4 (by omega))
                  have tr297 := (u294.2 63 5 (by omega))
                  have tr298 := (u294.2 63 9 (by omega))
                  have tr299 := (u294.2 63 35 (by omega))
                  have tr300 := (u294.2 63 42 (by omega))
                  have tr301 := (u294.2 63 43 (by omega))
                  have tr302 := (u294.2 63 45 (by omega))
                  have tr303 := (u294.2 63 10 (by omega))
                  have tr304 := (u294.2 63 46 (by omega))
                  have tr305 := (u294.2 63 36 (by omega))
                  have hkx306 := (KB.up0 (KB.fr v256pk fr280 rfl) u294 (by omega))
                  refine s_aload_n kx_197_382 rfl ?_
                  refine r_getR (k := 63) (f := 39) (k2 := 87) kx_197_383 kp_197_130 (tk_63 hT) kf_12_39 (by decide) (rq_63_39 hI294) ?_
                  refine s_iload_n kx_197_386 rfl ?_
                  refine s_iconst (v := 1) kx_197_387 (by decide) ?_
                  refine r_bast (k := 87) kx_197_388 (tk_87 hT) ⟨by omega, by omega⟩ (by omega) hI294 (ru_87 (by omega) (by omega)) (fun M307 hI307 u307 => ?_)
                  have hFm307 := hFm294.up u307 rfl
                  have hFj286307 := hFj286294.up u307 rfl
                  have tr308 := (u307.2 63 3 (by omega))
                  have tr309 := (u307.2 63 4 (by omega))
                  have tr310 := (u307.2 63 5 (by omega))
                  have tr311 := (u307.2 63 9 (by omega))
                  have tr312 := (u307.2 63 35 (by omega))
                  have tr313 := (u307.2 63 42 (by omega))
                  have tr314 := (u307.2 63 43 (by omega))
                  have tr315 := (u307.2 63 45 (by omega))
                  have tr316 := (u307.2 63 10 (by omega))
                  have tr317 := (u307.2 63 46 (by omega))
                  have tr318 := (u307.2 63 36 (by omega))
                  have hkx319 := (KB.up0 hkx306 u307 (by omega))
                  refine s_aload_n kx_197_389 rfl ?_
                  refine s_callV2 (k := 63) (s1 := 1) (s2 := 0) (as := []) (rest := []) kx_197_390 kp_197_286 (Or.inl rfl) rfl (tk_63 hT) ki_180 kcl_180 rfl rfl (by decide) (f_180 (d := d) hT hI307 (LyA.up (LyA.up (LyA.fr (LyA.fr hz.2 fr257 rfl) fr280 rfl) u294 ⟨by decide, Or.inl (by decide)⟩) u307 ⟨by decide, Or.inl (by decide)⟩).1 (LyA.up (LyA.up (LyA.fr (LyA.fr hz.2 fr257 rfl) fr280 rfl) u294 ⟨by decide, Or.inl (by decide)⟩) u307 ⟨by decide, Or.inl (by decide)⟩).2.1 (LyA.up (LyA.up (LyA.fr (LyA.fr hz.2 fr257 rfl) fr280 rfl) u294 ⟨by decide, Or.inl (by decide)⟩) u307 ⟨by decide, Or.inl (by decide)⟩).2.2.2.2.2.1 (owE_i2 ⟨(LyA.up (LyA.up (LyA.fr (LyA.fr hz.2 fr257 rfl) fr280 rfl) u294 ⟨by decide, Or.inl (by decide)⟩) u307 ⟨by decide, Or.inl (by decide)⟩).2.2.1, (LyA.up (LyA.up (LyA.fr (LyA.fr hz.2 fr257 rfl) fr280 rfl) u294 ⟨by decide, Or.inl (by decide)⟩) u307 ⟨by decide, Or.inl (by decide)⟩).2.2.2.1⟩).1 (owE_i2 ⟨(LyA.up (LyA.up (LyA.fr (LyA.fr hz.2 fr257 rfl) fr280 rfl) u294 ⟨by decide, Or.inl (by decide)⟩) u307 ⟨by decide, Or.inl (by decide)⟩).2.2.1, (LyA.up (LyA.up (LyA.fr (LyA.fr hz.2 fr257 rfl) fr280 rfl) u294 ⟨by decide, Or.inl (by decide)⟩) u307 ⟨by decide, Or.inl (by decide)⟩).2.2.2.1⟩).2 (LyA.up (LyA.up (LyA.fr (LyA.fr hz.2 fr257 rfl) fr280 rfl) u294 ⟨by decide, Or.inl (by decide)⟩) u307 ⟨by decide, Or.inl (by decide)⟩).2.2.2.2.2.2.2.2.2.2.2.2) (kV (fun M321 hI321 fr321 v320p => ?_))
                  have hFm321 := hFm307.call fr321 rfl
                  have hFj286321 := hFj286307.call fr321 rfl
                  have tr322 := (fr321 63 9 rfl)
                  have tr323 := (fr321 63 35 rfl)
                  have tr324 := (fr321 63 42 rfl)
                  have tr325 := (fr321 63 43 rfl)
                  have tr326 := (fr321 63 45 rfl)
                  have tr327 := (fr321 63 10 rfl)
                  have tr328 := (fr321 63 46 rfl)
                  have tr329 := (fr321 63 36 rfl)
                  have tr330 := rg_63_9 hI321
                  refine s_aload_n kx_197_393 rfl ?_
                  refine s_iconst (v := 0) kx_197_394 (by decide) ?_
                  refine r_put (k := 63) (f := 46) kx_197_395 kp_197_152 (tk_63 hT) kf_12_46 rfl (by decide) (by decide) hI321 (ru_63_46 (by omega) (by omega)) (fun M331 hI331 u331 => ?_)
                  have hFm331 := hFm321.up u331 rfl
                  have hFj286331 := hFj286321.up u331 rfl
                  have tr332 := (u331.2 63 3 (by omega))
                  have tr333 := (u331.2 63 4 (by omega))
                  have tr334 := (u331.2 63 5 (by omega))
                  have tr335 := (u331.2 63 9 (by omega))
                  have tr336 := (u331.2 63 35 (by omega))
                  have tr337 := (u331.2 63 42 (by omega))
                  have tr338 := (u331.2 63 43 (by omega))
                  have tr339 := (u331.2 63 45 (by omega))
                  have tr340 := (u331.2 63 10 (by omega))
                  have tr341 := u331.1
                  have tr342 := (u331.2 63 36 (by omega))
                  have hkx343 := (KB.up0 (KB.fr hkx319 fr321 rfl) u331 (by decide))
                  refine s_iconst (v := 1) kx_197_398 (by decide) ?_
                  have hk344 : M331 63 9 = v13 := ((u331.2 63 9 (by omega)).trans ((fr321 63 9 rfl).trans ((u307.2 63 9 (by omega)).trans ((u294.2 63 9 (by omega)).trans ((fr280 63 9 rfl).trans ((fr257 63 9 rfl).trans v13e))))))
                  exact s_iret kx_197_399 (Or.inr ⟨kq_197, by omega⟩) ⟨_, _, rfl, rfl, hI331, hFm331, ⟨⟨by omega, by omega, (LXp.up (show LXp M321 from v320p.2.2) u331 (by decide)), (by omega), (by omega), ⟨(Or.inr (Or.inr ⟨rfl, by omega, Or.inl ⟨u331.1, PI.to7 (PI.fr (PI.fr (PI.begins1 (PI.phase hP293 (Or.inr (by omega)) (by omega) u294) (by omega) (by omega) u307) fr321 rfl) (Up.fr u331) rfl) (by omega)⟩⟩)), (KP.up (KP.fr (KP.up (KP.up (KP.fr hK269 fr280 (fun _ => rfl)) u294 (by decide)) u307 (by decide)) fr321 (fun _ => rfl)) u331 (by decide))⟩, (StG.l (g_bo hK5 hA hC (by unfold pT; omega) (by omega) (by omega) (by omega)) rfl u331.1 (QJ.up (QJ.fr (QJ.bg1 (QJ.phs hqj292 (by omega) u294) (by omega) u307) fr321 rfl) u331 (by decide)) (by omega) (LyA.up v320p.1 u331 (by decide)) (RCo.up (RCo.fr (RCo.up (RCo.up (RCo.fr v256p.2.2.2 fr280 rfl) u294 ⟨by decide, by decide, Or.inl (by decide)⟩) u307 ⟨by decide, by decide, Or.inl (by decide)⟩) fr321 rfl) u331 (by decide)))⟩, hkx343⟩⟩
                refine s_if_eq (t := 370) kx_197_362 (by decide) (fun hc270 => ?_) (fun hc270 => ?_)
                · have hJ271 : Fr gS_197_j362 M257 M257 := Fr.refl
                  refine s_bipush (v := 21) kx_197_370 (by decide) ?_
                  exact cP.wk (lS1 rfl (lS1 rfl lS0)) (jn274 21 (by omega) (by omega) (by omega) (by omega))
                · have hJ272 : Fr gS_197_j362 M257 M257 := Fr.refl
                  refine s_bipush (v := 20) kx_197_365 (by decide) ?_
                  refine s_goto (t := 372) kx_197_367 (by decide) ?_
                  exact cP.wk (lS1 rfl (lS1 rfl lS0)) (jn274 20 (by omega) (by omega) (by omega) (by omega))
              refine s_if_eq (t := 355) kx_197_348 (by decide) (fun hc248 => ?_) (fun hc248 => ?_)
              · have hJ249 : Fr gS_197_j348 M2 M2 := Fr.refl
                replace v247p := v247p.resolve_left (by omega)
                refine s_iconst (v := 1) kx_197_355 (by decide) ?_
                exact cP.wk (lS1 rfl (lS1 rfl (lS1 rfl lS0))) (jn252 1 (by omega) (by omega) (by omega))
              · have hJ250 : Fr gS_197_j348 M2 M2 := Fr.refl
                replace v247p := v247p.resolve_right (by omega)
                refine s_iconst (v := 2) kx_197_351 (by decide) ?_
                refine s_goto (t := 356) kx_197_352 (by decide) ?_
                exact cP.wk (lS1 rfl (lS1 rfl (lS1 rfl lS0))) (jn252 2 (by omega) (by omega) (by omega))
            · refine s_aload_n kx_197_318 rfl ?_
              refine s_iconst (v := 1) kx_197_319 (by decide) ?_
              refine s_aload_n kx_197_320 rfl ?_
              refine r_getI (k := 63) (f := 4) kx_197_321 kp_197_23 (tk_63 hT) kf_12_4 (fun _ => rfl) (rg_63_4 hI2) (fun v345 v345e v345a v345b => ?_)
              have v345z : M 63 4 = v345 := ((fr2 63 4 rfl)).symm.trans v345e
              refine s_callV2 (k := 63) (s1 := 3) (s2 := 0) (as := [(0, v345), (0, 1)]) (rest := []) kx_197_324 kp_197_263 (Or.inl rfl) rfl (tk_63 hT) ki_176 kcl_176 rfl rfl (by decide) (f_176 (d := d + 1) (kind := 1) (place := v345) hT hI2 (by omega)) (kV (fun M347 hI347 fr347 v346p => ?_))
              have hFm347 := hFm2.call fr347 rfl
              have hFj286347 := hJ235.call fr347 rfl
              have tr348 := (fr347 63 3 rfl)
              have tr349 := (fr347 63 4 rfl)
              have tr350 := (fr347 63 5 rfl)
              have tr351 := (fr347 63 35 rfl)
              have tr352 := (fr347 63 42 rfl)
              have tr353 := (fr347 63 43 rfl)
              have tr354 := (fr347 63 45 rfl)
              have tr355 := (fr347 63 46 rfl)
              have tr356 := (fr347 63 36 rfl)
              have tr357 := rg_63_9 hI347
              refine s_aload_n kx_197_327 rfl ?_
              refine r_getI (k := 63) (f := 9) kx_197_328 kp_197_39 (tk_63 hT) kf_12_9 (fun _ => rfl) (rg_63_9 hI347) (fun v358 v358e v358a v358b => ?_)
              refine s_if_le (t := 336) kx_197_331 (by decide) (fun hc359 => ?_) (fun hc359 => ?_)
              · exact absurd h639 (by omega)
              · refine s_iconst (v := 0) kx_197_334 (by decide) ?_
                have hk360 : M347 63 4 = v345 := ((fr347 63 4 rfl).trans v345e)
                have hk361 : M347 63 9 = v358 := v358e
                exact s_iret kx_197_335 (Or.inr ⟨kq_197, by omega⟩) ⟨_, _, rfl, rfl, hI347, hFm347, ⟨⟨by omega, by omega, (LXp.fr (LXp.fr hX fr2 rfl) fr347 rfl), (by omega), (by omega), ⟨(Or.inl (by omega)), (KP.fr (KP.fr (KP.refl (M := M)) fr2 (fun _ => rfl)) fr347 (fun _ => rfl))⟩, (StG.r (g_bo0 hK5 hA hC (by unfold pT; omega) (by omega)) rfl (owFl2 (k := 1) (x := owB s n p) (by omega) (by omega) (by decide) (by omega) (by unfold owU; rw [if_neg hK5]; omega)))⟩, (KB.fr (KB.fr hKX fr2 rfl) fr347 rfl)⟩⟩
          refine s_if_ne (t := 309) kx_197_296 (by decide) (fun hc237 => ?_) (fun hc237 => ?_)
          · have hJ238 : Fr gS_197_j296 M2 M2 := Fr.refl
            replace v236p := v236p.resolve_right (by omega)
            exact cP.wk (lS1 rfl (lS1 rfl lS0)) (jn242 (by omega) (by first | exact Or.inl (bo_and (by omega)) | exact Or.inr (bo_or (by omega))))
          · have hJ239 : Fr gS_197_j296 M2 M2 := Fr.refl
            replace v236p := v236p.resolve_left (by omega)
            refine s_aload_n kx_197_299 rfl ?_
            refine s_ldc2_w kx_197_300 kp_197_325 ?_
            refine s_callV2 (k := 63) (s1 := 3) (s2 := 0) (as := [(1, 28530)]) (rest := []) kx_197_303 kp_197_361 (Or.inl rfl) rfl (tk_63 hT) ki_182 kcl_182 rfl rfl (by decide) (f_182 (d := d + 1) (w := 28530) hT hI2 hz.2 hK5 (w5 := 522190848) n58_or (Or.inr (by decide)) (by omega)) (kF (fun v240 v240p => ?_))
            refine s_if_eq (t := 400) kx_197_306 (by decide) (fun hc241 => ?_) (fun hc241 => ?_)
            · replace v240p := v240p.resolve_left (by omega)
              exact cP.wk (lS1 rfl (lS1 rfl (lS1 rfl (lS1 rfl lS0)))) (jn362 (fun g => by have g1 := g.1; first | omega | exact g.2 (bo_no (bo_na (by omega)) (by omega))))
            · replace v240p := v240p.resolve_right (by omega)
              exact cP.wk (lS1 rfl (lS1 rfl lS0)) (jn242 (by omega) (by first | exact Or.inl (bo_and (by omega)) | exact Or.inr (bo_or (by omega))))
      refine s_if_eq (t := 285) kx_197_189 (by decide) (fun hc130 => ?_) (fun hc130 => ?_)
      · have hJ131 : Fr gS_197_j189 M2 M2 := Fr.refl
        exact cP.wk (lS1 rfl (lS1 rfl (lS1 rfl (lS1 rfl lS0)))) (jn231 (fun g => by have g1 := g.1.1; have g2 := g.1.2; first | omega | exact g.2 (co_n (by omega) (by omega) (by omega))))
      · have hJ132 : Fr gS_197_j189 M2 M2 := Fr.refl
        refine s_aload_n kx_197_192 rfl ?_
        refine r_getR (k := 63) (f := 38) (k2 := 86) kx_197_193 kp_197_127 (tk_63 hT) kf_12_38 (by decide) (rq_63_38 hI2) ?_
        refine s_iload_n kx_197_196 rfl ?_
        refine r_aldK (k := 86) kx_197_197 (tk_86 hT) ⟨by omega, by omega⟩ v18e ?_
        refine s_if_ne (t := 285) kx_197_198 (by decide) (fun hc133 => ?_) (fun hc133 => ?_)
        · exact cP.wk (lS1 rfl (lS1 rfl (lS1 rfl (lS1 rfl lS0)))) (jn231 (fun g => by have g1 := g.1.1; have g2 := g.1.2; first | omega | exact g.2 (co_n (by omega) (by omega) (by omega))))
        · have hph134 : M2 86 ((v15 - 1)).toNat = 0 := by omega
          refine s_aload_n kx_197_201 rfl ?_
          refine s_bipush (v := 60) kx_197_202 (by decide) ?_
          refine s_callV2 (k := 63) (s1 := 2) (s2 := 0) (as := [(0, 60)]) (rest := []) kx_197_204 kp_197_283 (Or.inl rfl) rfl (tk_63 hT) ki_181 kcl_181 rfl rfl (by decide) (m_181 (d := d + 1) (c := 60) hT hI2) (kF (fun v135 v135p => ?_))
          have hiss136 := (hz.2.iss (c := 60))
          have jn146 : (owCo s n p ≠ 0) → (1 ≤ M 63 3) → cP k_P xs Ln (d + 2) 197 228 [(0, rf 63), (1, (0, (v15 - 1)))] [] (T, M2) (qW T M gS_197_m 0 (fun v M1 => (0 ≤ v ∧ v ≤ 1 ∧ (LXp M1 ∧ M 63 4 ≤ M1 63 4 ∧ M 63 9 ≤ M1 63 9 ∧ (GOd M M1 c a v ∧ KP M M1) ∧ (StG M1 s n ra (pSt s n (1, (k_, ph, bg, pr, os_) :: fs_, cs, p)) v))) ∧ KB bX WX M1)) := by
            clear hiss136 v135p
            intro a147 a148
            refine s_aload_n kx_197_228 rfl ?_
            refine s_iconst (v := 5) kx_197_229 (by decide) ?_
            refine s_callV2 (k := 63) (s1 := 2) (s2 := 0) (as := [(0, 5)]) (rest := []) kx_197_230 kp_197_370 (Or.inl rfl) rfl (tk_63 hT) ki_191 kcl_191 rfl rfl (by decide) (f_191 (d := d) (least := 5) hT hI2 (PI.fr hP fr2 rfl) (QJ.fr hQ fr2 rfl) (RCo.fr hRC fr2 rfl)  (KB.fr hKX fr2 rfl) (by omega) (by omega) (by omega)) (kV (fun M150 hI150 fr150 v149p => ?_))
            have hFm150 := hFm2.call fr150 rfl
            have hFj189150 := hJ132.call fr150 rfl
            have tr151 := (fr150 63 3 rfl)
            have tr152 := (fr150 63 4 rfl)
            have tr153 := (fr150 63 5 rfl)
            have tr154 := (fr150 63 9 rfl)
            have tr155 := (fr150 63 42 rfl)
            have tr156 := (fr150 63 10 rfl)
            have tr157 := (fr150 63 46 rfl)
            have tr158 := (fr150 63 36 rfl)
            have tr159 := rg_63_9 hI150
            have v149pk := v149p.2
            (replace v149p := v149p.1)
            have hd160 := PI.deep v149p.1
            have hs161 := PI.small v149p.1 (rg_63_43 hI150).2 (by decide)
            have hs161a := hs161.1
            have hs161b := hs161.2.1
            have hs161c := rg_63_45 hI150
            have hK162 := KP.trans (KP.fr (KP.refl (M := M)) fr2 (fun _ => rfl)) (fr2 63 36 rfl) v149p.2.1
            refine s_aload_n kx_197_233 rfl ?_
            refine s_aload_n kx_197_234 rfl ?_
            refine s_bipush (v := 60) kx_197_235 (by decide) ?_
            refine s_callV2 (k := 63) (s1 := 2) (s2 := 1) (as := [(0, 60)]) (rest := [rf 63]) kx_197_237 kp_197_283 (Or.inl rfl) rfl (tk_63 hT) ki_181 kcl_181 rfl rfl (by decide) (m_181 (d := d + 1) (c := 60) hT hI150) (kF (fun v163 v163p => ?_))
            have hiss164 := ((LyA.fr hz.2 fr150 rfl).iss (c := 60))
            have jn172 : ∀ (y171 : Int), (17 ≤ y171) → (y171 ≤ 19) → (17 ≤ y171 ∧ y171 ≤ 19) → (y171 = owCo s n p) → cP k_P xs Ln (d + 2) 197 264 [(0, rf 63), (1, (0, (v15 - 1)))] [(0, y171), rf 63] (T, M150) (qW T M gS_197_m 0 (fun v M1 => (0 ≤ v ∧ v ≤ 1 ∧ (LXp M1 ∧ M 63 4 ≤ M1 63 4 ∧ M 63 9 ≤ M1 63 9 ∧ (GOd M M1 c a v ∧ KP M M1) ∧ (StG M1 s n ra (pSt s n (1, (k_, ph, bg, pr, os_) :: fs_, cs, p)) v))) ∧ KB bX WX M1)) := by
              clear hiss164 v163p
              intro y171 a173 a174 a175 a176
              refine s_callV2 (k := 63) (s1 := 2) (s2 := 0) (as := [(0, y171)]) (rest := []) kx_197_264 kp_197_364 (Or.inl rfl) rfl (tk_63 hT) ki_192 kcl_192 rfl rfl (by decide) (m_192 (d := d + 1) (op := y171) hT hI150 (by omega) (by omega)) (kV (fun M178 hI178 fr178 v177p => ?_))
              have hFm178 := hFm150.call fr178 rfl
              have hFj189178 := hFj189150.call fr178 rfl
              have tr179 := (fr178 63 3 rfl)
              have tr180 := (fr178 63 4 rfl)
              have tr181 := (fr178 63 5 rfl)
              have tr182 := (fr178 63 9 rfl)
              have tr183 := (fr178 63 35 rfl)
              have tr184 := (fr178 63 42 rfl)
              have tr185 := (fr178 63 43 rfl)
              have tr186 := (fr178 63 10 rfl)
              have tr187 := (fr178 63 46 rfl)
              have tr188 := (fr178 63 36 rfl)
              have tr189 := rg_63_9 hI178
              have hqj190 := QJ.hold (e' := 0) v149p.2.2.1 fr178 v177p.1 v177p.2.1 v177p.2.2 (by rw [if_neg (by omega)]; omega)
              refine s_aload_n kx_197_267 rfl ?_
              refine r_getR (k := 63) (f := 38) (k2 := 86) kx_197_268 kp_197_127 (tk_63 hT) kf_12_38 (by decide) (rq_63_38 hI178) ?_
              refine s_iload_n kx_197_271 rfl ?_
              refine s_iconst (v := 1) kx_197_272 (by decide) ?_
              refine r_ast (k := 86) kx_197_273 (tk_86 hT) ⟨by omega, by omega⟩ hI178 (ru_86 (by omega) (by omega)) (fun M192 hI192 u192 => ?_)
              have hFm192 := hFm178.up u192 rfl
              have hFj189192 := hFj189178.up u192 rfl
              have tr193 := (u192.2 63 3 (by omega))
              have tr194 := (u192.2 63 4 (by omega))
              have tr195 := (u192.2 63 5 (by omega))
              have tr196 := (u192.2 63 9 (by omega))
              have tr197 := (u192.2 63 35 (by omega))
              have tr198 := (u192.2 63 42 (by omega))
              have tr199 := (u192.2 63 43 (by omega))
              have tr200 := (u192.2 63 45 (by omega))
              have tr201 := (u192.2 63 10 (by omega))
              have tr202 := (u192.2 63 46 (by omega))
              have tr203 := (u192.2 63 36 (by omega))
              have hkx204 := (KB.up0 (KB.fr v149pk fr178 rfl) u192 (by omega))
              have hP205 := PI.holdC v149p.1 (f := (v15 - 1)) (by omega) ((fr150 86 _ rfl).trans hph134) (B0.fr (B0.fr hB fr2 rfl (fun _ => rfl)) fr150 rfl (fun _ => rfl)) (by omega) fr178 v177p.1 v177p.2.1 v177p.2.2 u192
              refine s_aload_n kx_197_274 rfl ?_
              refine s_callV2 (k := 63) (s1 := 1) (s2 := 0) (as := []) (rest := []) kx_197_275 kp_197_286 (Or.inl rfl) rfl (tk_63 hT) ki_180 kcl_180 rfl rfl (by decide) (f_180 (d := d) hT hI192 (LyA.up (LyA.fr (LyA.fr hz.2 fr150 rfl) fr178 rfl) u192 ⟨by decide, Or.inl (by decide)⟩).1 (LyA.up (LyA.fr (LyA.fr hz.2 fr150 rfl) fr178 rfl) u192 ⟨by decide, Or.inl (by decide)⟩).2.1 (LyA.up (LyA.fr (LyA.fr hz.2 fr150 rfl) fr178 rfl) u192 ⟨by decide, Or.inl (by decide)⟩).2.2.2.2.2.1 (owE_i2 ⟨(LyA.up (LyA.fr (LyA.fr hz.2 fr150 rfl) fr178 rfl) u192 ⟨by decide, Or.inl (by decide)⟩).2.2.1, (LyA.up (LyA.fr (LyA.fr hz.2 fr150 rfl) fr178 rfl) u192 ⟨by decide, Or.inl (by decide)⟩).2.2.2.1⟩).1 (owE_i2 ⟨(LyA.up (LyA.fr (LyA.fr hz.2 fr150 rfl) fr178 rfl) u192 ⟨by decide, Or.inl (by decide)⟩).2.2.1, (LyA.up (LyA.fr (LyA.fr hz.2 fr150 rfl) fr178 rfl) u192 ⟨by decide, Or.inl (by decide)⟩).2.2.2.1⟩).2 (LyA.up (LyA.fr (LyA.fr hz.2 fr150 rfl) fr178 rfl) u192 ⟨by decide, Or.inl (by decide)⟩).2.2.2.2.2.2.2.2.2.2.2.2) (kV (fun M207 hI207 fr207 v206p => ?_))
              have hFm207 := hFm192.call fr207 rfl
              have hFj189207 := hFj189192.call fr207 rfl
              have tr208 := (fr207 63 9 rfl)
              have tr209 := (fr207 63 35 rfl)
              have tr210 := (fr207 63 42 rfl)
              have tr211 := (fr207 63 43 rfl)
              have tr212 := (fr207 63 45 rfl)
              have tr213 := (fr207 63 10 rfl)
              have tr214 := (fr207 63 46 rfl)
              have tr215 := (fr207 63 36 rfl)
              have tr216 := rg_63_9 hI207
              refine s_aload_n kx_197_278 rfl ?_
              refine s_iconst (v := 0) kx_197_279 (by decide) ?_
              refine r_put (k := 63) (f := 46) kx_197_280 kp_197_152 (tk_63 hT) kf_12_46 rfl (by decide) (by decide) hI207 (ru_63_46 (by omega) (by omega)) (fun M217 hI217 u217 => ?_)
              have hFm217 := hFm207.up u217 rfl
              have hFj189217 := hFj189207.up u217 rfl
              have tr218 := (u217.2 63 3 (by omega))
              have tr219 := (u217.2 63 4 (by omega))
              have tr220 := (u217.2 63 5 (by omega))
              have tr221 := (u217.2 63 9 (by omega))
              have tr222 := (u217.2 63 35 (by omega))
              have tr223 := (u217.2 63 42 (by omega))
              have tr224 := (u217.2 63 43 (by omega))
              have tr225 := (u217.2 63 45 (by omega))
              have tr226 := (u217.2 63 10 (by omega))
              have tr227 := u217.1
              have tr228 := (u217.2 63 36 (by omega))
              have hkx229 := (KB.up0 (KB.fr hkx204 fr207 rfl) u217 (by decide))
              refine s_iconst (v := 1) kx_197_283 (by decide) ?_
              have hk230 : M217 63 9 = v13 := ((u217.2 63 9 (by omega)).trans ((fr207 63 9 rfl).trans ((u192.2 63 9 (by omega)).trans ((fr178 63 9 rfl).trans ((fr150 63 9 rfl).trans v13e)))))
              exact s_iret kx_197_284 (Or.inr ⟨kq_197, by omega⟩) ⟨_, _, rfl, rfl, hI217, hFm217, ⟨⟨by omega, by omega, (LXp.up (show LXp M207 from v206p.2.2) u217 (by decide)), (by omega), (by omega), ⟨(Or.inr (Or.inr ⟨rfl, by omega, Or.inl ⟨u217.1, PI.to7 (PI.fr (PI.fr hP205 fr207 rfl) (Up.fr u217) rfl) (by omega)⟩⟩)), (KP.up (KP.fr (KP.up (KP.fr hK162 fr178 (fun _ => rfl)) u192 (by decide)) fr207 (fun _ => rfl)) u217 (by decide))⟩, (StG.l (g_co hK5 hA (by unfold pT; omega) (by omega) (by omega) (by omega)) rfl u217.1 (QJ.up (QJ.fr (QJ.phs hqj190 (by omega) u192) fr207 rfl) u217 (by decide)) (by omega) (LyA.up v206p.1 u217 (by decide)) (RCo.up (RCo.fr (RCo.up (RCo.fr v149p.2.2.2 fr178 rfl) u192 ⟨by decide, by decide, Or.inl (by decide)⟩) fr207 rfl) u217 (by decide)))⟩, hkx229⟩⟩
            refine s_if_eq (t := 248) kx_197_240 (by decide) (fun hc165 => ?_) (fun hc165 => ?_)
            · have hJ166 : Fr gS_197_j240 M150 M150 := Fr.refl
              replace v163p := v163p.resolve_left (by omega)
              refine s_aload_n kx_197_248 rfl ?_
              refine s_bipush (v := 62) kx_197_249 (by decide) ?_
              refine s_callV2 (k := 63) (s1 := 2) (s2 := 1) (as := [(0, 62)]) (rest := [rf 63]) kx_197_251 kp_197_283 (Or.inl rfl) rfl (tk_63 hT) ki_181 kcl_181 rfl rfl (by decide) (m_181 (d := d + 1) (c := 62) hT hI150) (kF (fun v167 v167p => ?_))
              have hiss168 := ((LyA.fr hz.2 fr150 rfl).iss (c := 62))
              refine s_if_eq (t := 262) kx_197_254 (by decide) (fun hc169 => ?_) (fun hc169 => ?_)
              · replace v167p := v167p.resolve_left (by omega)
                refine s_bipush (v := 19) kx_197_262 (by decide) ?_
                exact cP.wk (lS1 rfl (lS1 rfl lS0)) (jn172 19 (by omega) (by omega) (by omega) (co_19 (by omega) (by omega) (by omega)).symm)
              · replace v167p := v167p.resolve_right (by omega)
                refine s_bipush (v := 18) kx_197_257 (by decide) ?_
                refine s_goto (t := 264) kx_197_259 (by decide) ?_
                exact cP.wk (lS1 rfl (lS1 rfl lS0)) (jn172 18 (by omega) (by omega) (by omega) (by have z := co_62 (s := s) (n := n) (p := p) (by omega); omega))
            · have hJ170 : Fr gS_197_j240 M150 M150 := Fr.refl
              replace v163p := v163p.resolve_right (by omega)
              refine s_bipush (v := 17) kx_197_243 (by decide) ?_
              refine s_goto (t := 264) kx_197_245 (by decide) ?_
              exact cP.wk (lS1 rfl (lS1 rfl lS0)) (jn172 17 (by omega) (by omega) (by omega) (by have z := co_60 (s := s) (n := n) (p := p) (by omega); omega))
          refine s_if_ne (t := 228) kx_197_207 (by decide) (fun hc137 => ?_) (fun hc137 => ?_)
          · have hJ138 : Fr gS_197_j207 M2 M2 := Fr.refl
            replace v135p := v135p.resolve_right (by omega)
            exact cP.wk (lS1 rfl (lS1 rfl lS0)) (jn146 (by have z := co_60 (s := s) (n := n) (p := p) (by omega); omega) (by omega))
          · have hJ139 : Fr gS_197_j207 M2 M2 := Fr.refl
            replace v135p := v135p.resolve_left (by omega)
            refine s_aload_n kx_197_210 rfl ?_
            refine s_bipush (v := 62) kx_197_211 (by decide) ?_
            refine s_callV2 (k := 63) (s1 := 2) (s2 := 0) (as := [(0, 62)]) (rest := []) kx_197_213 kp_197_283 (Or.inl rfl) rfl (tk_63 hT) ki_181 kcl_181 rfl rfl (by decide) (m_181 (d := d + 1) (c := 62) hT hI2) (kF (fun v140 v140p => ?_))
            have hiss141 := (hz.2.iss (c := 62))
            refine s_if_ne (t := 228) kx_197_216 (by decide) (fun hc142 => ?_) (fun hc142 => ?_)
            · replace v140p := v140p.resolve_right (by omega)
              exact cP.wk (lS1 rfl (lS1 rfl lS0)) (jn146 (by have z := co_62 (s := s) (n := n) (p := p) (by omega); omega) (by omega))
            · replace v140p := v140p.resolve_left (by omega)
              refine s_aload_n kx_197_219 rfl ?_
              refine s_bipush (v := 61) kx_197_220 (by decide) ?_
              refine s_callV2 (k := 63) (s1 := 2) (s2 := 0) (as := [(0, 61)]) (rest := []) kx_197_222 kp_197_283 (Or.inl rfl) rfl (tk_63 hT) ki_181 kcl_181 rfl rfl (by decide) (m_181 (d := d + 1) (c := 61) hT hI2) (kF (fun v143 v143p => ?_))
              have hiss144 := (hz.2.iss (c := 61))
              refine s_if_eq (t := 285) kx_197_225 (by decide) (fun hc145 => ?_) (fun hc145 => ?_)
              · replace v143p := v143p.resolve_left (by omega)
                exact cP.wk (lS1 rfl (lS1 rfl (lS1 rfl (lS1 rfl lS0)))) (jn231 (fun g => by have g1 := g.1.1; have g2 := g.1.2; first | omega | exact g.2 (co_n (by omega) (by omega) (by omega))))
              · replace v143p := v143p.resolve_right (by omega)
                exact cP.wk (lS1 rfl (lS1 rfl lS0)) (jn146 (by have z := co_61 (s := s) (n := n) (p := p) (by omega); omega) (by omega))
    refine s_icmp_ge (t := 188) kx_197_39 (by decide) (fun hc19 => ?_) (fun hc19 => ?_)
    · have hJ20 : Fr gS_197_j39 M2 M2 := Fr.refl
      exact cP.wk (lS1 rfl (lS1 rfl (lS1 rfl (lS1 rfl lS0)))) (jn128 (fun g => by have g1 := g.1; first | omega | exact g.2 (ao_z (by omega) (by omega) (by omega) (by omega) (by omega))))
    · have hJ21 : Fr gS_197_j39 M2 M2 := Fr.refl
      refine s_aload_n kx_197_42 rfl ?_
      refine s_bipush (v := 43) kx_197_43 (by decide) ?_
      refine s_callV2 (k := 63) (s1 := 2) (s2 := 0) (as := [(0, 43)]) (rest := []) kx_197_45 kp_197_283 (Or.inl rfl) rfl (tk_63 hT) ki_181 kcl_181 rfl rfl (by decide) (m_181 (d := d + 1) (c := 43) hT hI2) (kF (fun v22 v22p => ?_))
      have hiss23 := (hz.2.iss (c := 43))
      have jn39 : (owAo s n p ≠ 0) → (1 ≤ M 63 3) → cP k_P xs Ln (d + 2) 197 88 [(0, rf 63)] [rf 63] (T, M2) (qW T M gS_197_m 0 (fun v M1 => (0 ≤ v ∧ v ≤ 1 ∧ (LXp M1 ∧ M 63 4 ≤ M1 63 4 ∧ M 63 9 ≤ M1 63 9 ∧ (GOd M M1 c a v ∧ KP M M1) ∧ (StG M1 s n ra (pSt s n (1, (k_, ph, bg, pr, os_) :: fs_, cs, p)) v))) ∧ KB bX WX M1)) := by
        clear hiss23 v22p
        intro a40 a41
        refine s_aload_n kx_197_88 rfl ?_
        refine s_bipush (v := 43) kx_197_89 (by decide) ?_
        refine s_callV2 (k := 63) (s1 := 2) (s2 := 1) (as := [(0, 43)]) (rest := [rf 63]) kx_197_91 kp_197_283 (Or.inl rfl) rfl (tk_63 hT) ki_181 kcl_181 rfl rfl (by decide) (m_181 (d := d + 1) (c := 43) hT hI2) (kF (fun v42 v42p => ?_))
        have hiss43 := (hz.2.iss (c := 43))
        have jn51 : ∀ (y50 : Int), (5 ≤ y50) → (y50 ≤ 6) → ((y50 = 5 ∧ owAo s n p ≤ 11) ∨ (y50 = 6 ∧ 12 ≤ owAo s n p)) → cP k_P xs Ln (d + 2) 197 112 [(0, rf 63)] [(0, y50), rf 63] (T, M2) (qW T M gS_197_m 0 (fun v M1 => (0 ≤ v ∧ v ≤ 1 ∧ (LXp M1 ∧ M 63 4 ≤ M1 63 4 ∧ M 63 9 ≤ M1 63 9 ∧ (GOd M M1 c a v ∧ KP M M1) ∧ (StG M1 s n ra (pSt s n (1, (k_, ph, bg, pr, os_) :: fs_, cs, p)) v))) ∧ KB bX WX M1)) := by
          clear hiss43 v42p
          intro y50 a52 a53 a54
          refine s_callV2 (k := 63) (s1 := 2) (s2 := 0) (as := [(0, y50)]) (rest := []) kx_197_112 kp_197_370 (Or.inl rfl) rfl (tk_63 hT) ki_191 kcl_191 rfl rfl (by decide) (f_191 (d := d) (least := y50) hT hI2 (PI.fr hP fr2 rfl) (QJ.fr hQ fr2 rfl) (RCo.fr hRC fr2 rfl)  (KB.fr hKX fr2 rfl) (by omega) (by omega) (by omega)) (kV (fun M56 hI56 fr56 v55p => ?_))
          have hFm56 := hFm2.call fr56 rfl
          have hFj3956 := hJ21.call fr56 rfl
          have tr57 := (fr56 63 3 rfl)
          have tr58 := (fr56 63 4 rfl)
          have tr59 := (fr56 63 5 rfl)
          have tr60 := (fr56 63 9 rfl)
          have tr61 := (fr56 63 42 rfl)
          have tr62 := (fr56 63 10 rfl)
          have tr63 := (fr56 63 46 rfl)
          have tr64 := (fr56 63 36 rfl)
          have tr65 := rg_63_9 hI56
          have v55pk := v55p.2
          (replace v55p := v55p.1)
          have hd66 := PI.deep v55p.1
          have hs67 := PI.small v55p.1 (rg_63_43 hI56).2 (by decide)
          have hs67a := hs67.1
          have hs67b := hs67.2.1
          have hs67c := rg_63_45 hI56
          have hK68 := KP.trans (KP.fr (KP.refl (M := M)) fr2 (fun _ => rfl)) (fr2 63 36 rfl) v55p.2.1
          refine s_aload_n kx_197_115 rfl ?_
          refine s_aload_n kx_197_116 rfl ?_
          refine s_bipush (v := 43) kx_197_117 (by decide) ?_
          refine s_callV2 (k := 63) (s1 := 2) (s2 := 1) (as := [(0, 43)]) (rest := [rf 63]) kx_197_119 kp_197_283 (Or.inl rfl) rfl (tk_63 hT) ki_181 kcl_181 rfl rfl (by decide) (m_181 (d := d + 1) (c := 43) hT hI56) (kF (fun v69 v69p => ?_))
          have hiss70 := ((LyA.fr hz.2 fr56 rfl).iss (c := 43))
          have jn84 : ∀ (y83 : Int), (10 ≤ y83) → (y83 ≤ 14) → (y83 = owAo s n p) → cP k_P xs Ln (d + 2) 197 174 [(0, rf 63)] [(0, y83), rf 63] (T, M56) (qW T M gS_197_m 0 (fun v M1 => (0 ≤ v ∧ v ≤ 1 ∧ (LXp M1 ∧ M 63 4 ≤ M1 63 4 ∧ M 63 9 ≤ M1 63 9 ∧ (GOd M M1 c a v ∧ KP M M1) ∧ (StG M1 s n ra (pSt s n (1, (k_, ph, bg, pr, os_) :: fs_, cs, p)) v))) ∧ KB bX WX M1)) := by
            clear hiss70 v69p
            intro y83 a85 a86 a87
            refine s_callV2 (k := 63) (s1 := 2) (s2 := 0) (as := [(0, y83)]) (rest := []) kx_197_174 kp_197_364 (Or.inl rfl) rfl (tk_63 hT) ki_192 kcl_192 rfl rfl (by decide) (m_192 (d := d + 1) (op := y83) hT hI56 (by omega) (by omega)) (kV (fun M89 hI89 fr89 v88p => ?_))
            have hFm89 := hFm56.call fr89 rfl
            have hFj3989 := hFj3956.call fr89 rfl
            have tr90 := (fr89 63 3 rfl)
            have tr91 := (fr89 63 4 rfl)
            have tr92 := (fr89 63 5 rfl)
            have tr93 := (fr89 63 9 rfl)
            have tr94 := (fr89 63 35 rfl)
            have tr95 := (fr89 63 42 rfl)
            have tr96 := (fr89 63 43 rfl)
            have tr97 := (fr89 63 10 rfl)
            have tr98 := (fr89 63 46 rfl)
            have tr99 := (fr89 63 36 rfl)
            have tr100 := rg_63_9 hI89
            have hqj101 := QJ.hold (e' := 0) v55p.2.2.1 fr89 v88p.1 v88p.2.1 v88p.2.2 (by rw [if_neg (by omega)]; omega)
            have hP102 := PI.holdA v55p.1 (B0.fr (B0.fr hB fr2 rfl (fun _ => rfl)) fr56 rfl (fun _ => rfl)) (by omega) fr89 v88p.1 v88p.2.1 v88p.2.2
            refine s_aload_n kx_197_177 rfl ?_
            refine s_callV2 (k := 63) (s1 := 1) (s2 := 0) (as := []) (rest := []) kx_197_178 kp_197_286 (Or.inl rfl) rfl (tk_63 hT) ki_180 kcl_180 rfl rfl (by decide) (f_180 (d := d) hT hI89 (LyA.fr (LyA.fr hz.2 fr56 rfl) fr89 rfl).1 (LyA.fr (LyA.fr hz.2 fr56 rfl) fr89 rfl).2.1 (LyA.fr (LyA.fr hz.2 fr56 rfl) fr89 rfl).2.2.2.2.2.1 (owE_i2 ⟨(LyA.fr (LyA.fr hz.2 fr56 rfl) fr89 rfl).2.2.1, (LyA.fr (LyA.fr hz.2 fr56 rfl) fr89 rfl).2.2.2.1⟩).1 (owE_i2 ⟨(LyA.fr (LyA.fr hz.2 fr56 rfl) fr89 rfl).2.2.1, (LyA.fr (LyA.fr hz.2 fr56 rfl) fr89 rfl).2.2.2.1⟩).2 (LyA.fr (LyA.fr hz.2 fr56 rfl) fr89 rfl).2.2.2.2.2.2.2.2.2.2.2.2) (kV (fun M104 hI104 fr104 v103p => ?_))
            have hFm104 := hFm89.call fr104 rfl
            have hFj39104 := hFj3989.call fr104 rfl
            have tr105 := (fr104 63 9 rfl)
            have tr106 := (fr104 63 35 rfl)
            have tr107 := (fr104 63 42 rfl)
            have tr108 := (fr104 63 43 rfl)
            have tr109 := (fr104 63 45 rfl)
            have tr110 := (fr104 63 10 rfl)
            have tr111 := (fr104 63 46 rfl)
            have tr112 := (fr104 63 36 rfl)
            have tr113 := rg_63_9 hI104
            refine s_aload_n kx_197_181 rfl ?_
            refine s_iconst (v := 0) kx_197_182 (by decide) ?_
            refine r_put (k := 63) (f := 46) kx_197_183 kp_197_152 (tk_63 hT) kf_12_46 rfl (by decide) (by decide) hI104 (ru_63_46 (by omega) (by omega)) (fun M114 hI114 u114 => ?_)
            have hFm114 := hFm104.up u114 rfl
            have hFj39114 := hFj39104.up u114 rfl
            have tr115 := (u114.2 63 3 (by omega))
            have tr116 := (u114.2 63 4 (by omega))
            have tr117 := (u114.2 63 5 (by omega))
            have tr118 := (u114.2 63 9 (by omega))
            have tr119 := (u114.2 63 35 (by omega))
            have tr120 := (u114.2 63 42 (by omega))
            have tr121 := (u114.2 63 43 (by omega))
            have tr122 := (u114.2 63 45 (by omega))
            have tr123 := (u114.2 63 10 (by omega))
            have tr124 := u114.1
            have tr125 := (u114.2 63 36 (by omega))
            have hkx126 := (KB.up0 (KB.fr (KB.fr v55pk fr89 rfl) fr104 rfl) u114 (by decide))
            refine s_iconst (v := 1) kx_197_186 (by decide) ?_
            have hk127 : M114 63 9 = v13 := ((u114.2 63 9 (by omega)).trans ((fr104 63 9 rfl).trans ((fr89 63 9 rfl).trans ((fr56 63 9 rfl).trans v13e))))
            exact s_iret kx_197_187 (Or.inr ⟨kq_197, by omega⟩) ⟨_, _, rfl, rfl, hI114, hFm114, ⟨⟨by omega, by omega, (LXp.up (show LXp M104 from v103p.2.2) u114 (by decide)), (by omega), (by omega), ⟨(Or.inr (Or.inr ⟨rfl, by omega, Or.inl ⟨u114.1, PI.to7 (PI.fr (PI.fr hP102 fr104 rfl) (Up.fr u114) rfl) (by omega)⟩⟩)), (KP.up (KP.fr (KP.fr hK68 fr89 (fun _ => rfl)) fr104 (fun _ => rfl)) u114 (by decide))⟩, (StG.l (g_ao hK5 (by omega) (by omega) (by omega) (by omega)) rfl u114.1 (QJ.up (QJ.fr hqj101 fr104 rfl) u114 (by decide)) (by omega) (LyA.up v103p.1 u114 (by decide)) (RCo.up (RCo.fr (RCo.fr v55p.2.2.2 fr89 rfl) fr104 rfl) u114 (by decide)))⟩, hkx126⟩⟩
          refine s_if_eq (t := 130) kx_197_122 (by decide) (fun hc71 => ?_) (fun hc71 => ?_)
          · have hJ72 : Fr gS_197_j122 M56 M56 := Fr.refl
            replace v69p := v69p.resolve_left (by omega)
            refine s_aload_n kx_197_130 rfl ?_
            refine s_bipush (v := 45) kx_197_131 (by decide) ?_
            refine s_callV2 (k := 63) (s1 := 2) (s2 := 1) (as := [(0, 45)]) (rest := [rf 63]) kx_197_133 kp_197_283 (Or.inl rfl) rfl (tk_63 hT) ki_181 kcl_181 rfl rfl (by decide) (m_181 (d := d + 1) (c := 45) hT hI56) (kF (fun v73 v73p => ?_))
            have hiss74 := ((LyA.fr hz.2 fr56 rfl).iss (c := 45))
            refine s_if_eq (t := 144) kx_197_136 (by decide) (fun hc75 => ?_) (fun hc75 => ?_)
            · replace v73p := v73p.resolve_left (by omega)
              refine s_aload_n kx_197_144 rfl ?_
              refine s_bipush (v := 42) kx_197_145 (by decide) ?_
              refine s_callV2 (k := 63) (s1 := 2) (s2 := 1) (as := [(0, 42)]) (rest := [rf 63]) kx_197_147 kp_197_283 (Or.inl rfl) rfl (tk_63 hT) ki_181 kcl_181 rfl rfl (by decide) (m_181 (d := d + 1) (c := 42) hT hI56) (kF (fun v76 v76p => ?_))
              have hiss77 := ((LyA.fr hz.2 fr56 rfl).iss (c := 42))
              refine s_if_eq (t := 158) kx_197_150 (by decide) (fun hc78 => ?_) (fun hc78 => ?_)
              · replace v76p := v76p.resolve_left (by omega)
                refine s_aload_n kx_197_158 rfl ?_
                refine s_bipush (v := 47) kx_197_159 (by decide) ?_
                refine s_callV2 (k := 63) (s1 := 2) (s2 := 1) (as := [(0, 47)]) (rest := [rf 63]) kx_197_161 kp_197_283 (Or.inl rfl) rfl (tk_63 hT) ki_181 kcl_181 rfl rfl (by decide) (m_181 (d := d + 1) (c := 47) hT hI56) (kF (fun v79 v79p => ?_))
                have hiss80 := ((LyA.fr hz.2 fr56 rfl).iss (c := 47))
                refine s_if_eq (t := 172) kx_197_164 (by decide) (fun hc81 => ?_) (fun hc81 => ?_)
                · replace v79p := v79p.resolve_left (by omega)
                  refine s_bipush (v := 14) kx_197_172 (by decide) ?_
                  exact cP.wk (lS1 rfl lS0) (jn84 14 (by omega) (by omega) (ao_14 (by omega) (by omega) (by omega) (by omega) (by omega)).symm)
                · replace v79p := v79p.resolve_right (by omega)
                  refine s_bipush (v := 13) kx_197_167 (by decide) ?_
                  refine s_goto (t := 174) kx_197_169 (by decide) ?_
                  exact cP.wk (lS1 rfl lS0) (jn84 13 (by omega) (by omega) (by have z := ao_47 (s := s) (n := n) (p := p) (by omega); omega))
              · replace v76p := v76p.resolve_right (by omega)
                refine s_bipush (v := 12) kx_197_153 (by decide) ?_
                refine s_goto (t := 174) kx_197_155 (by decide) ?_
                exact cP.wk (lS1 rfl lS0) (jn84 12 (by omega) (by omega) (by have z := ao_42 (s := s) (n := n) (p := p) (by omega); omega))
            · replace v73p := v73p.resolve_right (by omega)
              refine s_bipush (v := 11) kx_197_139 (by decide) ?_
              refine s_goto (t := 174) kx_197_141 (by decide) ?_
              exact cP.wk (lS1 rfl lS0) (jn84 11 (by omega) (by omega) (by have z := ao_45 (s := s) (n := n) (p := p) (by omega); omega))
          · have hJ82 : Fr gS_197_j122 M56 M56 := Fr.refl
            replace v69p := v69p.resolve_right (by omega)
            refine s_bipush (v := 10) kx_197_125 (by decide) ?_
            refine s_goto (t := 174) kx_197_127 (by decide) ?_
            exact cP.wk (lS1 rfl lS0) (jn84 10 (by omega) (by omega) (by have z := ao_43 (s := s) (n := n) (p := p) (by omega); omega))
        refine s_if_ne (t := 106) kx_197_94 (by decide) (fun hc44 => ?_) (fun hc44 => ?_)
        · have hJ45 : Fr gS_197_j94 M2 M2 := Fr.refl
          replace v42p := v42p.resolve_right (by omega)
          refine s_iconst (v := 5) kx_197_106 (by decide) ?_
          refine s_goto (t := 112) kx_197_107 (by decide) ?_
          exact cP.wk (lS1 rfl lS0) (jn51 5 (by omega) (by omega) (Or.inl ⟨rfl, by first | (have z := ao_43 (s := s) (n := n) (p := p) (by omega); omega) | (have z := ao_45 (s := s) (n := n) (p := p) (by omega); omega)⟩))
        · have hJ46 : Fr gS_197_j94 M2 M2 := Fr.refl
          replace v42p := v42p.resolve_left (by omega)
          refine s_aload_n kx_197_97 rfl ?_
          refine s_bipush (v := 45) kx_197_98 (by decide) ?_
          refine s_callV2 (k := 63) (s1 := 2) (s2 := 1) (as := [(0, 45)]) (rest := [rf 63]) kx_197_100 kp_197_283 (Or.inl rfl) rfl (tk_63 hT) ki_181 kcl_181 rfl rfl (by decide) (m_181 (d := d + 1) (c := 45) hT hI2) (kF (fun v47 v47p => ?_))
          have hiss48 := (hz.2.iss (c := 45))
          refine s_if_eq (t := 110) kx_197_103 (by decide) (fun hc49 => ?_) (fun hc49 => ?_)
          · replace v47p := v47p.resolve_left (by omega)
            refine s_bipush (v := 6) kx_197_110 (by decide) ?_
            exact cP.wk (lS1 rfl lS0) (jn51 6 (by omega) (by omega) (Or.inr ⟨rfl, ao_ge (by omega) (by omega) (by omega)⟩))
          · replace v47p := v47p.resolve_right (by omega)
            refine s_iconst (v := 5) kx_197_106 (by decide) ?_
            refine s_goto (t := 112) kx_197_107 (by decide) ?_
            exact cP.wk (lS1 rfl lS0) (jn51 5 (by omega) (by omega) (Or.inl ⟨rfl, by first | (have z := ao_43 (s := s) (n := n) (p := p) (by omega); omega) | (have z := ao_45 (s := s) (n := n) (p := p) (by omega); omega)⟩))
      refine s_if_ne (t := 87) kx_197_48 (by decide) (fun hc24 => ?_) (fun hc24 => ?_)
      · have hJ25 : Fr gS_197_j48 M2 M2 := Fr.refl
        replace v22p := v22p.resolve_right (by omega)
        refine s_aload_n kx_197_87 rfl ?_
        exact cP.wk (lS1 rfl lS0) (jn39 (by have z := ao_43 (s := s) (n := n) (p := p) (by omega); omega) (by omega))
      · have hJ26 : Fr gS_197_j48 M2 M2 := Fr.refl
        replace v22p := v22p.resolve_left (by omega)
        refine s_aload_n kx_197_51 rfl ?_
        refine s_bipush (v := 45) kx_197_52 (by decide) ?_
        refine s_callV2 (k := 63) (s1 := 2) (s2 := 0) (as := [(0, 45)]) (rest := []) kx_197_54 kp_197_283 (Or.inl rfl) rfl (tk_63 hT) ki_181 kcl_181 rfl rfl (by decide) (m_181 (d := d + 1) (c := 45) hT hI2) (kF (fun v27 v27p => ?_))
        have hiss28 := (hz.2.iss (c := 45))
        refine s_if_ne (t := 87) kx_197_57 (by decide) (fun hc29 => ?_) (fun hc29 => ?_)
        · replace v27p := v27p.resolve_right (by omega)
          refine s_aload_n kx_197_87 rfl ?_
          exact cP.wk (lS1 rfl lS0) (jn39 (by have z := ao_45 (s := s) (n := n) (p := p) (by omega); omega) (by omega))
        · replace v27p := v27p.resolve_left (by omega)
          refine s_aload_n kx_197_60 rfl ?_
          refine s_bipush (v := 42) kx_197_61 (by decide) ?_
          refine s_callV2 (k := 63) (s1 := 2) (s2 := 0) (as := [(0, 42)]) (rest := []) kx_197_63 kp_197_283 (Or.inl rfl) rfl (tk_63 hT) ki_181 kcl_181 rfl rfl (by decide) (m_181 (d := d + 1) (c := 42) hT hI2) (kF (fun v30 v30p => ?_))
          have hiss31 := (hz.2.iss (c := 42))
          refine s_if_ne (t := 87) kx_197_66 (by decide) (fun hc32 => ?_) (fun hc32 => ?_)
          · replace v30p := v30p.resolve_right (by omega)
            refine s_aload_n kx_197_87 rfl ?_
            exact cP.wk (lS1 rfl lS0) (jn39 (by have z := ao_42 (s := s) (n := n) (p := p) (by omega); omega) (by omega))
          · replace v30p := v30p.resolve_left (by omega)
            refine s_aload_n kx_197_69 rfl ?_
            refine s_bipush (v := 47) kx_197_70 (by decide) ?_
            refine s_callV2 (k := 63) (s1 := 2) (s2 := 0) (as := [(0, 47)]) (rest := []) kx_197_72 kp_197_283 (Or.inl rfl) rfl (tk_63 hT) ki_181 kcl_181 rfl rfl (by decide) (m_181 (d := d + 1) (c := 47) hT hI2) (kF (fun v33 v33p => ?_))
            have hiss34 := (hz.2.iss (c := 47))
            refine s_if_ne (t := 87) kx_197_75 (by decide) (fun hc35 => ?_) (fun hc35 => ?_)
            · replace v33p := v33p.resolve_right (by omega)
              refine s_aload_n kx_197_87 rfl ?_
              exact cP.wk (lS1 rfl lS0) (jn39 (by have z := ao_47 (s := s) (n := n) (p := p) (by omega); omega) (by omega))
            · replace v33p := v33p.resolve_left (by omega)
              refine s_aload_n kx_197_78 rfl ?_
              refine s_bipush (v := 37) kx_197_79 (by decide) ?_
              refine s_callV2 (k := 63) (s1 := 2) (s2 := 0) (as := [(0, 37)]) (rest := []) kx_197_81 kp_197_283 (Or.inl rfl) rfl (tk_63 hT) ki_181 kcl_181 rfl rfl (by decide) (m_181 (d := d + 1) (c := 37) hT hI2) (kF (fun v36 v36p => ?_))
              have hiss37 := (hz.2.iss (c := 37))
              refine s_if_eq (t := 188) kx_197_84 (by decide) (fun hc38 => ?_) (fun hc38 => ?_)
              · replace v36p := v36p.resolve_left (by omega)
                exact cP.wk (lS1 rfl (lS1 rfl (lS1 rfl (lS1 rfl lS0)))) (jn128 (fun g => by have g1 := g.1; first | omega | exact g.2 (ao_z (by omega) (by omega) (by omega) (by omega) (by omega))))
              · replace v36p := v36p.resolve_right (by omega)
                refine s_aload_n kx_197_87 rfl ?_
                exact cP.wk (lS1 rfl lS0) (jn39 (by have z := ao_37 (s := s) (n := n) (p := p) (by omega); omega) (by omega))
  · have hp9 := Yst.pos v1p.1 (by omega)
    have hk5 : owK s n p = 5 := Decidable.byContradiction fun g => hp9.1 (by unfold yLx; rw [if_neg (by decide), if_neg g])
    refine s_iconst (v := 0) kx_197_11 (by decide) ?_
    have hk790 : M2 63 9 = v13 := v13e
    exact s_iret kx_197_12 (Or.inr ⟨kq_197, by omega⟩) ⟨_, _, rfl, rfl, hI2, hFm2, ⟨⟨by omega, by omega, (LXp.fr hX fr2 rfl), (by omega), (by omega), ⟨(Or.inl (by omega)), (KP.fr (KP.refl (M := M)) fr2 (fun _ => rfl))⟩, (StG.r (g5 hk5) rfl (by have hp := Yst.pos v1p.1 (by omega); rw [show owU s n p = yLx s n 0 p by unfold yLx; rw [if_neg (by decide), if_pos hk5, owU5 hk5]]; exact hp))⟩, (KB.fr hKX fr2 rfl)⟩⟩
