/-! goesOn -/
def StG (M : cM) (s : Nat → Int) (n : Int) (r : pSs ⊕ pRs) (v : Int) : Prop := match r with
  | .inl τ => v = 1 ∧ M 63 46 = τ.1 ∧ QJ M τ.2.1 0 ∧ M 63 9 = 0 ∧ LyA M s n τ.2.2.2
  | .inr r => v = 0 ∧ ((r.1 ≠ 0 ∧ FlY M r.1) ∨ (r.1 = 0 ∧ M 63 9 = 0 ∧ LyA M s n r.2.1))
section GO
variable {M : cM} {s : Nat → Int} {n p v k ph bg pr : Int} {ops : List Int} {fs : List pF} {cs : List Int}
theorem StG.l {r : pSs ⊕ pRs} {o : Int} {gs : List pF} {q : Int} (h : ∃ c, r = .inl (o, gs, c, q)) (hv : v = 1) (ho : M 63 46 = o) (h1 : QJ M gs 0) (h2 : M 63 9 = 0) (h3 : LyA M s n q) : StG M s n r v := by
  obtain ⟨c, h⟩ := h
  rw [h]
  exact ⟨hv, ho, h1, h2, h3⟩
theorem StG.r {r : pSs ⊕ pRs} {f q : Int} {c : List Int} (h : r = .inr (f, q, c)) (hv : v = 0) (h1 : f ≠ 0 ∧ FlY M f) : StG M s n r v := by
  rw [h]
  exact ⟨hv, Or.inl h1⟩
theorem StG.d {r : pSs ⊕ pRs} {q : Int} (h : ∃ c, r = .inr (0, q, c)) (hv : v = 0) (h2 : M 63 9 = 0) (h3 : LyA M s n q) : StG M s n r v := by
  obtain ⟨c, h⟩ := h
  rw [h]
  exact ⟨hv, Or.inr ⟨rfl, h2, h3⟩⟩
theorem g5 (h5 : owK s n p = 5) : pSt s n (1, (k, ph, bg, pr, ops) :: fs, cs, p) = .inr (owU s n p, p, cs) := by
  rw [pGo_s]
  unfold pGo
  rw [if_pos h5]
theorem g_ao {l a : Int} (h5 : owK s n p ≠ 5) (hp : ph < 2) (ha : a = owAo s n p) (h0 : a ≠ 0) (hl : (l = 5 ∧ a ≤ 11) ∨ (l = 6 ∧ 12 ≤ a)) : ∃ c, pSt s n (1, (k, ph, bg, pr, ops) :: fs, cs, p) = .inl (0, (k, ph, bg, pr, a :: pJo l ops) :: fs, c, owE s n p) := by
  subst ha
  rw [pGo_s]
  unfold pGo
  rw [if_neg h5, if_pos ⟨hp, h0⟩, show (if owAo s n p ≤ 11 then (5 : Int) else 6) = l by (split <;> omega), pJo_eq]
  exact ⟨_, rfl⟩
/-- no arithmetic sign that counts here -/
def nAo (s : Nat → Int) (n p ph : Int) : Prop := ¬ (ph < 2 ∧ owAo s n p ≠ 0)
theorem g_co {a : Int} (h5 : owK s n p ≠ 5) (hA : nAo s n p ph) (hk : pT k) (hp : ph = 0) (ha : a = owCo s n p) (h0 : a ≠ 0) : ∃ c, pSt s n (1, (k, ph, bg, pr, ops) :: fs, cs, p) = .inl (0, (k, 1, bg, pr, a :: pJo 5 ops) :: fs, c, owE s n p) := by
  subst ha
  rw [pGo_s]
  unfold pGo
  rw [if_neg h5, if_neg hA, if_pos ⟨⟨hk, hp⟩, h0⟩, pJo_eq]
  exact ⟨_, rfl⟩
def nCo (s : Nat → Int) (n p k ph : Int) : Prop := ¬ ((pT k ∧ ph = 0) ∧ owCo s n p ≠ 0)
theorem g_bo0 (h5 : owK s n p ≠ 5) (hA : nAo s n p ph) (hC : nCo s n p k ph) (hk : pT k) (hp : ph = 0) : pSt s n (1, (k, ph, bg, pr, ops) :: fs, cs, p) = .inr (owU s n p, p, cs) := by
  rw [pGo_s]
  unfold pGo
  rw [if_neg h5, if_neg hA, if_neg hC]
  by_cases hb : owBo s n p = 0
  · rw [if_neg (fun g => g.2 hb), if_pos ⟨hk, hp⟩]
  · rw [if_pos ⟨hk, hb⟩, if_pos hp]
theorem g_bo {l a : Int} (h5 : owK s n p ≠ 5) (hA : nAo s n p ph) (hC : nCo s n p k ph) (hk : pT k) (hp : ph ≠ 0) (ha : a = owBo s n p) (hl : (l = 2 ∧ a = 20) ∨ (l = 1 ∧ a = 21)) : ∃ c, pSt s n (1, (k, ph, bg, pr, ops) :: fs, cs, p) = .inl (0, (k, 0, 1, pr, a :: pJo l ops) :: fs, c, owE s n p) := by
  subst ha
  rw [pGo_s]
  unfold pGo
  rw [if_neg h5, if_neg hA, if_neg hC, if_pos ⟨hk, by omega⟩, if_neg hp, show (if owBo s n p = 20 then (2 : Int) else 1) = l by (split <;> omega), pJo_eq]
  exact ⟨_, rfl⟩
/-- neither and nor or, nor a test without its comparison -/
def nB1 (s : Nat → Int) (n p k : Int) : Prop := ¬ (pT k ∧ owBo s n p ≠ 0)
def nBo (s : Nat → Int) (n p k ph : Int) : Prop := nB1 s n p k ∧ ¬ (pT k ∧ ph = 0)
theorem g_end (h5 : owK s n p ≠ 5) (hA : nAo s n p ph) (hC : nCo s n p k ph) (hB : nBo s n p k ph) (hk : k < 2) : ∃ c, pSt s n (1, (k, ph, bg, pr, ops) :: fs, cs, p) = .inr (0, p, c) := by
  rw [pGo_s]
  unfold pGo
  rw [if_neg h5, if_neg hA, if_neg hC, if_neg hB.1, if_neg hB.2, if_pos hk]
  exact ⟨_, rfl⟩
theorem pJo_1 : ∀ (ops : List Int), pJo 1 ops = []
  | [] => rfl
  | o :: os => by
    unfold pJo
    rw [if_pos (rk_rng o).1]
    exact pJo_1 os
theorem g_cm {x : Int} (h5 : owK s n p ≠ 5) (hA : nAo s n p ph) (hC : nCo s n p k ph) (hB : nBo s n p k ph) (hk : k = 3 ∨ k = 6) (hg : owG s n p 44 = 1) (hx : (k = 3 ∧ x = 4) ∨ (k ≠ 3 ∧ x = 3)) : ∃ c, pSt s n (1, (k, ph, bg, pr, ops) :: fs, cs, p) = .inl (0, (x, 0, bg, pr, []) :: fs, c, owE s n p) := by
  rw [pGo_s]
  unfold pGo
  rw [if_neg h5, if_neg hA, if_neg hC, if_neg hB.1, if_neg hB.2, if_neg (by omega), if_pos hk, if_neg (by omega), pJo_eq, pJo_1, show (if k = 3 then (4 : Int) else 3) = x by (split <;> omega)]
  exact ⟨_, rfl⟩
theorem g_cmx (h5 : owK s n p ≠ 5) (hA : nAo s n p ph) (hC : nCo s n p k ph) (hB : nBo s n p k ph) (hk : k = 3 ∨ k = 6) (hg : owG s n p 44 = 0) : pSt s n (1, (k, ph, bg, pr, ops) :: fs, cs, p) = .inr (owU s n p, p, cs) := by
  rw [pGo_s]
  unfold pGo
  rw [if_neg h5, if_neg hA, if_neg hC, if_neg hB.1, if_neg hB.2, if_neg (by omega), if_pos hk, if_pos hg]
theorem g_clx {c : Int} (h5 : owK s n p ≠ 5) (hA : nAo s n p ph) (hC : nCo s n p k ph) (hB : nBo s n p k ph) (hk : 2 ≤ k ∧ k ≠ 3 ∧ k ≠ 6) (hc : (k = 5 ∧ c = 93) ∨ (k ≠ 5 ∧ c = 41)) (hg : owG s n p c = 0) : pSt s n (1, (k, ph, bg, pr, ops) :: fs, cs, p) = .inr (owU s n p, p, cs) := by
  rw [pGo_s]
  unfold pGo
  rw [if_neg h5, if_neg hA, if_neg hC, if_neg hB.1, if_neg hB.2, if_neg (by omega), if_neg (by omega), if_pos (by rw [show (if k = 5 then (93 : Int) else 41) = c by (split <;> omega)]; exact hg)]
theorem g_cl {c k2 ph2 bg2 pr2 x : Int} {ops2 : List Int} {gs : List pF} (h5 : owK s n p ≠ 5) (hA : nAo s n p ph) (hC : nCo s n p k ph) (hB : nBo s n p k ph) (hk : 2 ≤ k ∧ k ≠ 3 ∧ k ≠ 6) (hc : (k = 5 ∧ c = 93) ∨ (k ≠ 5 ∧ c = 41)) (hg : owG s n p c = 1) (hx : (k = 5 ∧ x = 2) ∨ (k ≠ 5 ∧ x = ph2)) : ∃ d, pSt s n (1, (k, ph, bg, pr, ops) :: (k2, ph2, bg2, pr2, ops2) :: gs, cs, p) = .inl (1, (k2, x, bg2, pr2, ops2) :: gs, d, owE s n p) := by
  rw [pGo_s]
  unfold pGo
  rw [if_neg h5, if_neg hA, if_neg hC, if_neg hB.1, if_neg hB.2, if_neg (by omega), if_neg (by omega), if_neg (by rw [show (if k = 5 then (93 : Int) else 41) = c by (split <;> omega)]; omega)]
  dsimp only
  rw [show (if k = 5 then (2 : Int) else ph2) = x by (split <;> omega)]
  exact ⟨_, rfl⟩
theorem ao_z (h1 : owG s n p 43 = 0) (h2 : owG s n p 45 = 0) (h3 : owG s n p 42 = 0) (h4 : owG s n p 47 = 0) (h5 : owG s n p 37 = 0) : owAo s n p = 0 := ao_n5 (ao_n6 h3 h4 h5) h1 h2
theorem ao_ge (h1 : owG s n p 43 = 0) (h2 : owG s n p 45 = 0) (h : owAo s n p ≠ 0) : 12 ≤ owAo s n p := by
  unfold owAo at h ⊢
  (repeat' split) <;> (repeat' split at h) <;> omega
theorem ao_14 (h1 : owG s n p 43 = 0) (h2 : owG s n p 45 = 0) (h3 : owG s n p 42 = 0) (h4 : owG s n p 47 = 0) (h : owAo s n p ≠ 0) : owAo s n p = 14 := by
  unfold owAo at h ⊢
  (repeat' split) <;> (repeat' split at h) <;> omega
theorem co_19 (h1 : owG s n p 60 = 0) (h2 : owG s n p 62 = 0) (h : owCo s n p ≠ 0) : owCo s n p = 19 := by
  unfold owCo at h ⊢
  (repeat' split) <;> (repeat' split at h) <;> omega
theorem QJ.j1 {e : Int} (h : QJ M ((k, ph, bg, pr, pJo 1 ops) :: fs) e) : QJ M ((k, ph, bg, pr, []) :: fs) e := by
  rw [pJo_1] at h
  exact h
theorem QJ.two {e : Int} (h : QJ M ((k, ph, bg, pr, ops) :: fs) e) (hd : 2 ≤ M 63 42) : ∃ k2 ph2 bg2 pr2 ops2 gs, fs = (k2, ph2, bg2, pr2, ops2) :: gs := by
  have := h.2.2.1
  rw [List.length_cons] at this
  cases fs with
  | nil =>
    rw [List.length_nil] at this
    omega
  | cons G gs => exact ⟨G.1, G.2.1, G.2.2.1, G.2.2.2.1, G.2.2.2.2, gs, rfl⟩
end GO
def gS_197_j189 : List (Nat × Nat) := [(63, 13), (63, 3), (63, 35), (63, 4), (63, 43), (63, 45), (63, 46), (63, 5), (63, 6), (63, 7), (63, 8), (81, 99999), (82, 99999), (86, 99999), (90, 99999)]
def gS_197_j286 : List (Nat × Nat) := [(63, 10), (63, 13), (63, 3), (63, 35), (63, 4), (63, 43), (63, 45), (63, 46), (63, 5), (63, 6), (63, 7), (63, 8), (63, 9), (81, 99999), (82, 99999), (86, 99999), (87, 99999), (90, 99999)]
def gS_197_j39 : List (Nat × Nat) := [(63, 13), (63, 3), (63, 35), (63, 4), (63, 43), (63, 45), (63, 46), (63, 5), (63, 6), (63, 7), (63, 8), (81, 99999), (82, 99999), (90, 99999)]
def gS_197_j401 : List (Nat × Nat) := [(63, 10), (63, 9)]
def gS_197_j443 : List (Nat × Nat) := [(63, 10), (63, 13), (63, 3), (63, 35), (63, 4), (63, 42), (63, 43), (63, 45), (63, 5), (63, 6), (63, 7), (63, 8), (63, 9), (81, 99999), (82, 99999), (86, 99999)]
def gS_197_m : List (Nat × Nat) := [(63, 10), (63, 13), (63, 3), (63, 35), (63, 4), (63, 42), (63, 43), (63, 45), (63, 46), (63, 5), (63, 6), (63, 7), (63, 8), (63, 9), (81, 99999), (82, 99999), (85, 99999), (86, 99999), (87, 99999), (90, 99999)]
def gS_197_j48 : List (Nat × Nat) := []
def gS_197_j94 : List (Nat × Nat) := []
def gS_197_j122 : List (Nat × Nat) := []
def gS_197_j207 : List (Nat × Nat) := []
def gS_197_j240 : List (Nat × Nat) := []
def gS_197_j296 : List (Nat × Nat) := []
def gS_197_j348 : List (Nat × Nat) := []
def gS_197_j362 : List (Nat × Nat) := []
def gS_197_j491 : List (Nat × Nat) := []
set_option maxHeartbeats 16000000 in
theorem f_197 {xs : Nat → Int} {Ln d : Nat} {T : List cK} {M : cM} (hT : TT T) (hI : Rng M) (hX : LXp M) {s : Nat → Int} {n p : Int} (hn : n ≤ 1600) (hL : LyA M s n p) (h9 : M 63 9 = 0) {k_ ph bg pr : Int} {os_ : List Int} {fs_ : List pF} (hQ : QJ M ((k_, ph, bg, pr, os_) :: fs_) 0) {cs : List Int} (h46 : M 63 46 = 1) {c : Nat → Int} {a q : Int} (hP : PI M c a 1 7 q 0) (hB : B0 M) (p0 : q ≤ M 63 4) : cC k_P xs Ln (d + 2) 197 [rf 63] (T, M) (qW T M gS_197_m 0 (fun v M1 => 0 ≤ v ∧ v ≤ 1 ∧ (LXp M1 ∧ M 63 4 ≤ M1 63 4 ∧ M 63 9 ≤ M1 63 9 ∧ (GOd M M1 c a v ∧ KP M M1) ∧ (StG M1 s n (pSt s n (1, (k_, ph, bg, pr, os_) :: fs_, cs, p)) v)))) := by
  show cP k_P xs Ln (d + 2) 197 0 [(0, rf 63)] [] (T, M) _
  have hFm : Fr gS_197_m M M := Fr.refl
  have h639 := rg_63_9 hI
  have ⟨lx1, lx2⟩ := hX
  have hd := PI.deep hP
  have hs := PI.small hP (rg_63_43 hI).2 (by decide)
  have hs1 := hs.1
  have hs2 := hs.2.1
  have h4 := rg_63_4 hI
  have h43 := rg_63_43 hI
  have h5 := rg_63_5 hI
  have h45 := rg_63_45 hI
  refine s_aload_n kx_197_0 rfl ?_
  refine s_callV2 (k := 63) (s1 := 1) (s2 := 0) (as := []) (rest := []) kx_197_1 kp_197_280 (Or.inl rfl) rfl (tk_63 hT) ki_179 kcl_179 rfl rfl (by decide) (f_179 (d := d) hT hI (show Yst M s n 0 p from Or.inr ⟨rfl, h9, hL⟩) hn) (kV (fun M2 hI2 fr2 v1p => ?_))
  have hFm2 := hFm.call fr2 rfl
  have tr3 := (fr2 63 3 rfl)
  have tr4 := (fr2 63 4 rfl)
  have tr5 := (fr2 63 5 rfl)
  have tr6 := (fr2 63 35 rfl)
  have tr7 := (fr2 63 42 rfl)
  have tr8 := (fr2 63 43 rfl)
  have tr9 := (fr2 63 45 rfl)
  have tr10 := (fr2 63 46 rfl)
  have tr11 := rg_63_9 hI2
  refine s_aload_n kx_197_4 rfl ?_
  refine r_getI (k := 63) (f := 9) kx_197_5 kp_197_39 (tk_63 hT) kf_12_9 (fun _ => rfl) (rg_63_9 hI2) (fun v12 v12e v12a v12b => ?_)
  refine s_if_le (t := 13) kx_197_8 (by decide) (fun hc13 => ?_) (fun hc13 => ?_)
  · have hz := Yst.zero v1p.1 (by omega)
    have hzk := yLx_0 hz.1 hz.2.2.2.1
    have hK5 := hzk.2
    have hzb := hz.2.b hn
    have hzp := hz.2.2.2.1
    have hzn := hz.2.2.2.2.1
    refine s_aload_n kx_197_13 rfl ?_
    refine r_getI (k := 63) (f := 42) kx_197_14 kp_197_140 (tk_63 hT) kf_12_42 (fun _ => rfl) (rg_63_42 hI2) (fun v14 v14e v14a v14b => ?_)
    have v14z : M 63 42 = v14 := ((fr2 63 42 rfl)).symm.trans v14e
    refine s_iconst (v := 1) kx_197_17 (by decide) ?_
    refine r_sub kx_197_18 ⟨by omega, by omega⟩ ?_
    have htop := (QJ.fr hQ fr2 rfl).top1
    rw [v14e] at htop
    have ht1 := htop.1
    have ht2 := htop.2.1
    have ht3 := htop.2.2.1
    have ht4 := htop.2.2.2.1
    have ht6 := htop.2.2.2.2.2
    have htl : 0 ≤ ((fs_.length : Nat) : Int) := Int.natCast_nonneg _
    refine s_istore_n kx_197_19 km_197_1 rfl ?_
    refine s_aload_n kx_197_20 rfl ?_
    refine r_getR (k := 63) (f := 37) (k2 := 85) kx_197_21 kp_197_124 (tk_63 hT) kf_12_37 (by decide) (rq_63_37 hI2) ?_
    refine s_iload_n kx_197_24 rfl ?_
    refine r_ald (k := 85) kx_197_25 (tk_85 hT) ⟨by omega, by omega⟩ (rg_85 hI2) (fun v15 v15e v15a v15b => ?_)
    refine s_istore_n kx_197_26 km_197_2 rfl ?_
    refine s_iload_n kx_197_27 rfl ?_
    refine s_callS2 (s1 := 1) (s2 := 0) (as := [(0, v15)]) (rest := []) kx_197_28 kp_197_358 rfl kcl_195 rfl rfl (by decide) (f_195 (d := d + 1) (kind := v15) hT hI2) (kF (fun v16 v16p => ?_))
    refine s_istore_n kx_197_31 km_197_3 rfl ?_
    refine s_aload_n kx_197_32 rfl ?_
    refine r_getR (k := 63) (f := 38) (k2 := 86) kx_197_33 kp_197_127 (tk_63 hT) kf_12_38 (by decide) (rq_63_38 hI2) ?_
    refine s_iload_n kx_197_36 rfl ?_
    refine r_ald (k := 86) kx_197_37 (tk_86 hT) ⟨by omega, by omega⟩ (rg_86 hI2) (fun v17 v17e v17a v17b => ?_)
    refine s_iconst (v := 2) kx_197_38 (by decide) ?_
    have jn122 : (nAo s n p ph) → cP k_P xs Ln (d + 2) 197 188 [(0, rf 63), (1, (0, (v14 - 1))), (2, (0, v15)), (3, (0, v16))] [] (T, M2) (qW T M gS_197_m 0 (fun v M1 => 0 ≤ v ∧ v ≤ 1 ∧ (LXp M1 ∧ M 63 4 ≤ M1 63 4 ∧ M 63 9 ≤ M1 63 9 ∧ (GOd M M1 c a v ∧ KP M M1) ∧ (StG M1 s n (pSt s n (1, (k_, ph, bg, pr, os_) :: fs_, cs, p)) v)))) := by
      intro a123
      have hA := a123
      refine s_iload_n kx_197_188 rfl ?_
      have jn218 : (nCo s n p k_ ph) → cP k_P xs Ln (d + 2) 197 285 [(0, rf 63), (1, (0, (v14 - 1))), (2, (0, v15)), (3, (0, v16))] [] (T, M2) (qW T M gS_197_m 0 (fun v M1 => 0 ≤ v ∧ v ≤ 1 ∧ (LXp M1 ∧ M 63 4 ≤ M1 63 4 ∧ M 63 9 ≤ M1 63 9 ∧ (GOd M M1 c a v ∧ KP M M1) ∧ (StG M1 s n (pSt s n (1, (k_, ph, bg, pr, os_) :: fs_, cs, p)) v)))) := by
        intro a219
        have hC := a219
        refine s_iload_n kx_197_285 rfl ?_
        have jn339 : (nB1 s n p k_) → cP k_P xs Ln (d + 2) 197 400 [(0, rf 63), (1, (0, (v14 - 1))), (2, (0, v15)), (3, (0, v16))] [] (T, M2) (qW T M gS_197_m 0 (fun v M1 => 0 ≤ v ∧ v ≤ 1 ∧ (LXp M1 ∧ M 63 4 ≤ M1 63 4 ∧ M 63 9 ≤ M1 63 9 ∧ (GOd M M1 c a v ∧ KP M M1) ∧ (StG M1 s n (pSt s n (1, (k_, ph, bg, pr, os_) :: fs_, cs, p)) v)))) := by
          intro a340
          have hB1 := a340
          refine s_iload_n kx_197_400 rfl ?_
          have jn436 : (nBo s n p k_ ph) → cP k_P xs Ln (d + 2) 197 422 [(0, rf 63), (1, (0, (v14 - 1))), (2, (0, v15))] [] (T, M2) (qW T M gS_197_m 0 (fun v M1 => 0 ≤ v ∧ v ≤ 1 ∧ (LXp M1 ∧ M 63 4 ≤ M1 63 4 ∧ M 63 9 ≤ M1 63 9 ∧ (GOd M M1 c a v ∧ KP M M1) ∧ (StG M1 s n (pSt s n (1, (k_, ph, bg, pr, os_) :: fs_, cs, p)) v)))) := by
            clear hB1 a340 a219 a123 v16p
            intro a437
            have hB9 := a437
            refine s_iload_n kx_197_422 rfl ?_
            refine s_iconst (v := 2) kx_197_423 (by decide) ?_
            refine s_icmp_ge (t := 441) kx_197_424 (by decide) (fun hc438 => ?_) (fun hc438 => ?_)
            · refine s_iload_n kx_197_441 rfl ?_
              refine s_iconst (v := 3) kx_197_442 (by decide) ?_
              have jn631 : (3 ≤ v15) → (v15 = 3 ∨ v15 = 6) → cP k_P xs Ln (d + 2) 197 452 [(0, rf 63), (1, (0, (v14 - 1))), (2, (0, v15))] [] (T, M2) (qW T M gS_197_m 0 (fun v M1 => 0 ≤ v ∧ v ≤ 1 ∧ (LXp M1 ∧ M 63 4 ≤ M1 63 4 ∧ M 63 9 ≤ M1 63 9 ∧ (GOd M M1 c a v ∧ KP M M1) ∧ (StG M1 s n (pSt s n (1, (k_, ph, bg, pr, os_) :: fs_, cs, p)) v)))) := by
                intro a632 a633
                refine s_aload_n kx_197_452 rfl ?_
                refine s_bipush (v := 44) kx_197_453 (by decide) ?_
                refine s_callV2 (k := 63) (s1 := 2) (s2 := 0) (as := [(0, 44)]) (rest := []) kx_197_455 kp_197_283 (Or.inl rfl) rfl (tk_63 hT) ki_181 kcl_181 rfl rfl (by decide) (m_181 (d := d + 1) (c := 44) hT hI2) (kF (fun v634 v634p => ?_))
                have hiss635 := (hz.2.iss (c := 44))
                refine s_if_ne (t := 470) kx_197_458 (by decide) (fun hc636 => ?_) (fun hc636 => ?_)
                · replace v634p := v634p.resolve_right (by omega)
                  refine s_aload_n kx_197_470 rfl ?_
                  refine r_getK (k := 63) (f := 9) kx_197_471 kp_197_39 (tk_63 hT) kf_12_9 (fun _ => rfl) v12e ?_
                  refine s_if_le (t := 479) kx_197_474 (by decide) (fun hc637 => ?_) (fun hc637 => absurd hc637 (by omega))
                  refine s_aload_n kx_197_479 rfl ?_
                  refine s_iconst (v := 1) kx_197_480 (by decide) ?_
                  refine s_callV2 (k := 63) (s1 := 2) (s2 := 0) (as := [(0, 1)]) (rest := []) kx_197_481 kp_197_370 (Or.inl rfl) rfl (tk_63 hT) ki_191 kcl_191 rfl rfl (by decide) (f_191 (d := d) (least := 1) hT hI2 (PI.fr hP fr2 rfl) (QJ.fr hQ fr2 rfl) (by omega) (by omega) (by omega)) (kV (fun M639 hI639 fr639 v638p => ?_))
                  have hFm639 := hFm2.call fr639 rfl
                  have tr640 := (fr639 63 3 rfl)
                  have tr641 := (fr639 63 4 rfl)
                  have tr642 := (fr639 63 5 rfl)
                  have tr643 := (fr639 63 9 rfl)
                  have tr644 := (fr639 63 42 rfl)
                  have tr645 := (fr639 63 10 rfl)
                  have tr646 := (fr639 63 46 rfl)
                  have tr647 := rg_63_9 hI639
                  have hd648 := PI.deep v638p.1
                  have hs649 := PI.small v638p.1 (rg_63_43 hI639).2 (by decide)
                  have hs649a := hs649.1
                  have hs649b := hs649.2.1
                  have hs649c := rg_63_45 hI639
                  have hK650 := KP.trans (KP.fr (KP.refl (M := M)) fr2 (fun _ => rfl)) (fr2 63 36 rfl) v638p.2.1
                  have hk85651 : M639 85 ((v14 - 1)).toNat = v15 := ((fr639 85 _ rfl).trans v15e)
                  have hqj652 := QJ.j1 v638p.2.2
                  refine s_aload_n kx_197_484 rfl ?_
                  refine r_getR (k := 63) (f := 37) (k2 := 85) kx_197_485 kp_197_124 (tk_63 hT) kf_12_37 (by decide) (rq_63_37 hI639) ?_
                  refine s_iload_n kx_197_488 rfl ?_
                  refine s_iload_n kx_197_489 rfl ?_
                  refine s_iconst (v := 3) kx_197_490 (by decide) ?_
                  have jn657 : ∀ (y656 : Int), (3 ≤ y656) → (y656 ≤ 4) → ((v15 = 3 ∧ y656 = 4) ∨ (v15 ≠ 3 ∧ y656 = 3)) → cP k_P xs Ln (d + 2) 197 499 [(0, rf 63), (1, (0, (v14 - 1)))] [(0, y656), (0, (v14 - 1)), rf 85] (T, M639) (qW T M gS_197_m 0 (fun v M1 => 0 ≤ v ∧ v ≤ 1 ∧ (LXp M1 ∧ M 63 4 ≤ M1 63 4 ∧ M 63 9 ≤ M1 63 9 ∧ (GOd M M1 c a v ∧ KP M M1) ∧ (StG M1 s n (pSt s n (1, (k_, ph, bg, pr, os_) :: fs_, cs, p)) v)))) := by
                    intro y656 a658 a659 a660
                    refine r_ast (k := 85) kx_197_499 (tk_85 hT) ⟨by omega, by omega⟩ hI639 (ru_85 (by omega) (by omega)) (fun M661 hI661 u661 => ?_)
                    have hFm661 := hFm639.up u661 rfl
                    have tr662 := (u661.2 63 3 (by omega))
                    have tr663 := (u661.2 63 4 (by omega))
                    have tr664 := (u661.2 63 5 (by omega))
                    have tr665 := (u661.2 63 9 (by omega))
                    have tr666 := (u661.2 63 35 (by omega))
                    have tr667 := (u661.2 63 42 (by omega))
                    have tr668 := (u661.2 63 43 (by omega))
                    have tr669 := (u661.2 63 45 (by omega))
                    have tr670 := (u661.2 63 10 (by omega))
                    have tr671 := (u661.2 63 46 (by omega))
                    refine s_aload_n kx_197_500 rfl ?_
                    refine r_getR (k := 63) (f := 38) (k2 := 86) kx_197_501 kp_197_127 (tk_63 hT) kf_12_38 (by decide) (rq_63_38 hI661) ?_
                    refine s_iload_n kx_197_504 rfl ?_
                    refine s_iconst (v := 0) kx_197_505 (by decide) ?_
                    refine r_ast (k := 86) kx_197_506 (tk_86 hT) ⟨by omega, by omega⟩ hI661 (ru_86 (by omega) (by omega)) (fun M672 hI672 u672 => ?_)
                    have hFm672 := hFm661.up u672 rfl
                    have tr673 := (u672.2 63 3 (by omega))
                    have tr674 := (u672.2 63 4 (by omega))
                    have tr675 := (u672.2 63 5 (by omega))
                    have tr676 := (u672.2 63 9 (by omega))
                    have tr677 := (u672.2 63 35 (by omega))
                    have tr678 := (u672.2 63 42 (by omega))
                    have tr679 := (u672.2 63 43 (by omega))
                    have tr680 := (u672.2 63 45 (by omega))
                    have tr681 := (u672.2 63 10 (by omega))
                    have tr682 := (u672.2 63 46 (by omega))
                    refine s_aload_n kx_197_507 rfl ?_
                    refine s_callV2 (k := 63) (s1 := 1) (s2 := 0) (as := []) (rest := []) kx_197_508 kp_197_286 (Or.inl rfl) rfl (tk_63 hT) ki_180 kcl_180 rfl rfl (by decide) (f_180 (d := d) hT hI672 (LyA.up (LyA.up (LyA.fr hz.2 fr639 rfl) u661 ⟨by decide, Or.inl (by decide)⟩) u672 ⟨by decide, Or.inl (by decide)⟩).1 (LyA.up (LyA.up (LyA.fr hz.2 fr639 rfl) u661 ⟨by decide, Or.inl (by decide)⟩) u672 ⟨by decide, Or.inl (by decide)⟩).2.1 (LyA.up (LyA.up (LyA.fr hz.2 fr639 rfl) u661 ⟨by decide, Or.inl (by decide)⟩) u672 ⟨by decide, Or.inl (by decide)⟩).2.2.2.2.2.1 (owE_i2 ⟨(LyA.up (LyA.up (LyA.fr hz.2 fr639 rfl) u661 ⟨by decide, Or.inl (by decide)⟩) u672 ⟨by decide, Or.inl (by decide)⟩).2.2.1, (LyA.up (LyA.up (LyA.fr hz.2 fr639 rfl) u661 ⟨by decide, Or.inl (by decide)⟩) u672 ⟨by decide, Or.inl (by decide)⟩).2.2.2.1⟩).1 (owE_i2 ⟨(LyA.up (LyA.up (LyA.fr hz.2 fr639 rfl) u661 ⟨by decide, Or.inl (by decide)⟩) u672 ⟨by decide, Or.inl (by decide)⟩).2.2.1, (LyA.up (LyA.up (LyA.fr hz.2 fr639 rfl) u661 ⟨by decide, Or.inl (by decide)⟩) u672 ⟨by decide, Or.inl (by decide)⟩).2.2.2.1⟩).2 (LyA.up (LyA.up (LyA.fr hz.2 fr639 rfl) u661 ⟨by decide, Or.inl (by decide)⟩) u672 ⟨by decide, Or.inl (by decide)⟩).2.2.2.2.2.2.2.2.2.2.2.2) (kV (fun M684 hI684 fr684 v683p => ?_))
                    have hFm684 := hFm672.call fr684 rfl
                    have tr685 := (fr684 63 9 rfl)
                    have tr686 := (fr684 63 35 rfl)
                    have tr687 := (fr684 63 42 rfl)
                    have tr688 := (fr684 63 43 rfl)
                    have tr689 := (fr684 63 45 rfl)
                    have tr690 := (fr684 63 10 rfl)
                    have tr691 := (fr684 63 46 rfl)
                    have tr692 := rg_63_9 hI684
                    refine s_aload_n kx_197_511 rfl ?_
                    refine s_iconst (v := 0) kx_197_512 (by decide) ?_
                    refine r_put (k := 63) (f := 46) kx_197_513 kp_197_152 (tk_63 hT) kf_12_46 rfl (by decide) (by decide) hI684 (ru_63_46 (by omega) (by omega)) (fun M693 hI693 u693 => ?_)
                    have hFm693 := hFm684.up u693 rfl
                    have tr694 := (u693.2 63 3 (by omega))
                    have tr695 := (u693.2 63 4 (by omega))
                    have tr696 := (u693.2 63 5 (by omega))
                    have tr697 := (u693.2 63 9 (by omega))
                    have tr698 := (u693.2 63 35 (by omega))
                    have tr699 := (u693.2 63 42 (by omega))
                    have tr700 := (u693.2 63 43 (by omega))
                    have tr701 := (u693.2 63 45 (by omega))
                    have tr702 := (u693.2 63 10 (by omega))
                    have tr703 := u693.1
                    refine s_iconst (v := 1) kx_197_516 (by decide) ?_
                    have hk704 : M693 63 9 = v12 := ((u693.2 63 9 (by omega)).trans ((fr684 63 9 rfl).trans ((u672.2 63 9 (by omega)).trans ((u661.2 63 9 (by omega)).trans ((fr639 63 9 rfl).trans v12e)))))
                    exact s_iret kx_197_517 (Or.inr ⟨kq_197, by omega⟩) ⟨_, _, rfl, rfl, hI693, hFm693, ⟨by omega, by omega, (LXp.up (show LXp M684 from v683p.2.2) u693 (by decide)), (by omega), (by omega), ⟨(Or.inr (Or.inr ⟨rfl, by omega, Or.inl ⟨u693.1, PI.to7 (PI.fr (PI.fr (PI.phase (PI.comma v638p.1 (by omega) (by omega) u661) (Or.inr (by omega)) (by omega) u672) fr684 rfl) (Up.fr u693) rfl) (by omega)⟩⟩)), (KP.up (KP.fr (KP.up (KP.up hK650 u661 (by decide)) u672 (by decide)) fr684 (fun _ => rfl)) u693 (by decide))⟩, (StG.l (g_cm hK5 hA hC hB9 (by omega) (by omega) (by omega)) rfl u693.1 (QJ.up (QJ.fr (QJ.phs (QJ.knd hqj652 (by omega) (by omega) u661) (by omega) u672) fr684 rfl) u693 (by decide)) (by omega) (LyA.up v683p.1 u693 (by decide)))⟩⟩
                  refine s_icmp_ne (t := 498) kx_197_491 (by decide) (fun hc653 => ?_) (fun hc653 => ?_)
                  · have hJ654 : Fr gS_197_j491 M639 M639 := Fr.refl
                    refine s_iconst (v := 3) kx_197_498 (by decide) ?_
                    exact cP.wk (lS1 rfl (lS1 rfl lS0)) (jn657 3 (by omega) (by omega) (by omega))
                  · have hJ655 : Fr gS_197_j491 M639 M639 := Fr.refl
                    refine s_iconst (v := 4) kx_197_494 (by decide) ?_
                    refine s_goto (t := 499) kx_197_495 (by decide) ?_
                    exact cP.wk (lS1 rfl (lS1 rfl lS0)) (jn657 4 (by omega) (by omega) (by omega))
                · replace v634p := v634p.resolve_left (by omega)
                  refine s_aload_n kx_197_461 rfl ?_
                  refine s_iconst (v := 1) kx_197_462 (by decide) ?_
                  refine s_aload_n kx_197_463 rfl ?_
                  refine r_getI (k := 63) (f := 4) kx_197_464 kp_197_23 (tk_63 hT) kf_12_4 (fun _ => rfl) (rg_63_4 hI2) (fun v705 v705e v705a v705b => ?_)
                  have v705z : M 63 4 = v705 := ((fr2 63 4 rfl)).symm.trans v705e
                  refine s_callV2 (k := 63) (s1 := 3) (s2 := 0) (as := [(0, v705), (0, 1)]) (rest := []) kx_197_467 kp_197_263 (Or.inl rfl) rfl (tk_63 hT) ki_176 kcl_176 rfl rfl (by decide) (f_176 (d := d + 1) (kind := 1) (place := v705) hT hI2 (by omega)) (kV (fun M707 hI707 fr707 v706p => ?_))
                  have hFm707 := hFm2.call fr707 rfl
                  have tr708 := (fr707 63 3 rfl)
                  have tr709 := (fr707 63 4 rfl)
                  have tr710 := (fr707 63 5 rfl)
                  have tr711 := (fr707 63 35 rfl)
                  have tr712 := (fr707 63 42 rfl)
                  have tr713 := (fr707 63 43 rfl)
                  have tr714 := (fr707 63 45 rfl)
                  have tr715 := (fr707 63 46 rfl)
                  have tr716 := rg_63_9 hI707
                  refine s_aload_n kx_197_470 rfl ?_
                  refine r_getI (k := 63) (f := 9) kx_197_471 kp_197_39 (tk_63 hT) kf_12_9 (fun _ => rfl) (rg_63_9 hI707) (fun v717 v717e v717a v717b => ?_)
                  refine s_if_le (t := 479) kx_197_474 (by decide) (fun hc718 => ?_) (fun hc718 => ?_)
                  · exact absurd h639 (by omega)
                  · refine s_iconst (v := 0) kx_197_477 (by decide) ?_
                    have hk719 : M707 63 4 = v705 := ((fr707 63 4 rfl).trans v705e)
                    have hk720 : M707 63 9 = v717 := v717e
                    exact s_iret kx_197_478 (Or.inr ⟨kq_197, by omega⟩) ⟨_, _, rfl, rfl, hI707, hFm707, ⟨by omega, by omega, (LXp.fr (LXp.fr hX fr2 rfl) fr707 rfl), (by omega), (by omega), ⟨(Or.inl (by omega)), (KP.fr (KP.fr (KP.refl (M := M)) fr2 (fun _ => rfl)) fr707 (fun _ => rfl))⟩, (StG.r (g_cmx hK5 hA hC hB9 (by omega) (by omega)) rfl (owFl2 (k := 1) (x := owB s n p) (by omega) (by omega) (by decide) (by omega) (by unfold owU; rw [if_neg hK5]; omega)))⟩⟩
              refine s_icmp_eq (t := 452) kx_197_443 (by decide) (fun hc439 => ?_) (fun hc439 => ?_)
              · have hJ440 : Fr gS_197_j443 M2 M2 := Fr.refl
                exact cP.wk (lS1 rfl (lS1 rfl (lS1 rfl lS0))) (jn631 (by omega) (by omega))
              · have hJ441 : Fr gS_197_j443 M2 M2 := Fr.refl
                refine s_iload_n kx_197_446 rfl ?_
                refine s_bipush (v := 6) kx_197_447 (by decide) ?_
                refine s_icmp_ne (t := 518) kx_197_449 (by decide) (fun hc442 => ?_) (fun hc442 => ?_)
                · refine s_aload_n kx_197_518 rfl ?_
                  refine s_iload_n kx_197_519 rfl ?_
                  refine s_iconst (v := 5) kx_197_520 (by decide) ?_
                  refine s_icmp_ne (t := 529) kx_197_521 (by decide) (fun hc443 => ?_) (fun hc443 => ?_)
                  · refine s_bipush (v := 41) kx_197_529 (by decide) ?_
                    refine s_callV2 (k := 63) (s1 := 2) (s2 := 0) (as := [(0, 41)]) (rest := []) kx_197_531 kp_197_283 (Or.inl rfl) rfl (tk_63 hT) ki_181 kcl_181 rfl rfl (by decide) (m_181 (d := d + 1) (c := 41) hT hI2) (kF (fun v444 v444p => ?_))
                    have hiss445 := (hz.2.iss (c := 41))
                    refine s_if_ne (t := 546) kx_197_534 (by decide) (fun hc446 => ?_) (fun hc446 => ?_)
                    · replace v444p := v444p.resolve_right (by omega)
                      refine s_aload_n kx_197_546 rfl ?_
                      refine r_getK (k := 63) (f := 9) kx_197_547 kp_197_39 (tk_63 hT) kf_12_9 (fun _ => rfl) v12e ?_
                      refine s_if_le (t := 555) kx_197_550 (by decide) (fun hc447 => ?_) (fun hc447 => absurd hc447 (by omega))
                      refine s_aload_n kx_197_555 rfl ?_
                      refine s_iconst (v := 1) kx_197_556 (by decide) ?_
                      refine s_callV2 (k := 63) (s1 := 2) (s2 := 0) (as := [(0, 1)]) (rest := []) kx_197_557 kp_197_370 (Or.inl rfl) rfl (tk_63 hT) ki_191 kcl_191 rfl rfl (by decide) (f_191 (d := d) (least := 1) hT hI2 (PI.fr hP fr2 rfl) (QJ.fr hQ fr2 rfl) (by omega) (by omega) (by omega)) (kV (fun M449 hI449 fr449 v448p => ?_))
                      have hFm449 := hFm2.call fr449 rfl
                      have hFj443449 := hJ441.call fr449 rfl
                      have tr450 := (fr449 63 3 rfl)
                      have tr451 := (fr449 63 4 rfl)
                      have tr452 := (fr449 63 5 rfl)
                      have tr453 := (fr449 63 9 rfl)
                      have tr454 := (fr449 63 42 rfl)
                      have tr455 := (fr449 63 10 rfl)
                      have tr456 := (fr449 63 46 rfl)
                      have tr457 := rg_63_9 hI449
                      have hd458 := PI.deep v448p.1
                      have hs459 := PI.small v448p.1 (rg_63_43 hI449).2 (by decide)
                      have hs459a := hs459.1
                      have hs459b := hs459.2.1
                      have hs459c := rg_63_45 hI449
                      have hK460 := KP.trans (KP.fr (KP.refl (M := M)) fr2 (fun _ => rfl)) (fr2 63 36 rfl) v448p.2.1
                      have hqj461 := QJ.j1 v448p.2.2
                      refine s_aload_n kx_197_560 rfl ?_
                      refine s_dup kx_197_561 rfl ?_
                      refine r_getK (k := 63) (f := 42) kx_197_562 kp_197_140 (tk_63 hT) kf_12_42 (fun _ => rfl) ((fr449 63 42 rfl).trans v14e) ?_
                      refine s_iconst (v := 1) kx_197_565 (by decide) ?_
                      refine r_sub kx_197_566 ⟨by omega, by omega⟩ ?_
                      refine r_put (k := 63) (f := 42) kx_197_567 kp_197_140 (tk_63 hT) kf_12_42 rfl (by decide) (by decide) hI449 (ru_63_42 (by omega) (by omega)) (fun M462 hI462 u462 => ?_)
                      have hFm462 := hFm449.up u462 rfl
                      have hFj443462 := hFj443449.up u462 rfl
                      have tr463 := (u462.2 63 3 (by omega))
                      have tr464 := (u462.2 63 4 (by omega))
                      have tr465 := (u462.2 63 5 (by omega))
                      have tr466 := (u462.2 63 9 (by omega))
                      have tr467 := (u462.2 63 35 (by omega))
                      have tr468 := u462.1
                      have tr469 := (u462.2 63 43 (by omega))
                      have tr470 := (u462.2 63 45 (by omega))
                      have tr471 := (u462.2 63 10 (by omega))
                      have tr472 := (u462.2 63 46 (by omega))
                      have hcl473 := PI.close v448p.1 (by decide) (f := (v14 - 1)) (by omega) ((fr449 85 _ rfl).trans v15e) (by omega) u462 (by omega)
                      have hcl473d := hcl473.2.2.1
                      have hcl473q := PI.deep hcl473.1
                      obtain ⟨k2, ph2, bg2, pr2, os2, gs2, rfl⟩ := (hqj461).two (by omega)
                      have hqj474 := QJ.close hqj461 u462 (by omega)
                      refine s_aload_n kx_197_570 rfl ?_
                      refine s_dup kx_197_571 rfl ?_
                      refine r_getI (k := 63) (f := 43) kx_197_572 kp_197_143 (tk_63 hT) kf_12_43 (fun _ => rfl) (rg_63_43 hI462) (fun v475 v475e v475a v475b => ?_)
                      refine s_iconst (v := 1) kx_197_575 (by decide) ?_
                      refine r_sub kx_197_576 ⟨by omega, by omega⟩ ?_
                      have hcl473e := PI.e_le hcl473.1
                      refine r_put (k := 63) (f := 43) kx_197_577 kp_197_143 (tk_63 hT) kf_12_43 rfl (by decide) (by decide) hI462 (ru_63_43 (by omega) (by omega)) (fun M476 hI476 u476 => ?_)
                      have hFm476 := hFm462.up u476 rfl
                      have hFj443476 := hFj443462.up u476 rfl
                      have tr477 := (u476.2 63 3 (by omega))
                      have tr478 := (u476.2 63 4 (by omega))
                      have tr479 := (u476.2 63 5 (by omega))
                      have tr480 := (u476.2 63 9 (by omega))
                      have tr481 := (u476.2 63 35 (by omega))
                      have tr482 := (u476.2 63 42 (by omega))
                      have tr483 := u476.1
                      have tr484 := (u476.2 63 45 (by omega))
                      have tr485 := (u476.2 63 10 (by omega))
                      have tr486 := (u476.2 63 46 (by omega))
                      have hP487 := (PI.opn (e' := 0) hcl473.1 u476 (by omega))
                      refine s_iload_n kx_197_580 rfl ?_
                      refine s_iconst (v := 4) kx_197_581 (by decide) ?_
                      refine s_icmp_ne (t := 596) kx_197_582 (by decide) (fun hc488 => ?_) (fun hc488 => ?_)
                      · have hP489 := PI.comp0 hP487 (by omega)
                        refine s_iload_n kx_197_596 rfl ?_
                        refine s_iconst (v := 5) kx_197_597 (by decide) ?_
                        refine s_icmp_ne (t := 613) kx_197_598 (by decide) (fun hc490 => ?_) (fun hc490 => absurd hc490 (by omega))
                        refine s_aload_n kx_197_613 rfl ?_
                        refine s_callV2 (k := 63) (s1 := 1) (s2 := 0) (as := []) (rest := []) kx_197_614 kp_197_286 (Or.inl rfl) rfl (tk_63 hT) ki_180 kcl_180 rfl rfl (by decide) (f_180 (d := d) hT hI476 (LyA.up (LyA.up (LyA.fr hz.2 fr449 rfl) u462 (by decide)) u476 (by decide)).1 (LyA.up (LyA.up (LyA.fr hz.2 fr449 rfl) u462 (by decide)) u476 (by decide)).2.1 (LyA.up (LyA.up (LyA.fr hz.2 fr449 rfl) u462 (by decide)) u476 (by decide)).2.2.2.2.2.1 (owE_i2 ⟨(LyA.up (LyA.up (LyA.fr hz.2 fr449 rfl) u462 (by decide)) u476 (by decide)).2.2.1, (LyA.up (LyA.up (LyA.fr hz.2 fr449 rfl) u462 (by decide)) u476 (by decide)).2.2.2.1⟩).1 (owE_i2 ⟨(LyA.up (LyA.up (LyA.fr hz.2 fr449 rfl) u462 (by decide)) u476 (by decide)).2.2.1, (LyA.up (LyA.up (LyA.fr hz.2 fr449 rfl) u462 (by decide)) u476 (by decide)).2.2.2.1⟩).2 (LyA.up (LyA.up (LyA.fr hz.2 fr449 rfl) u462 (by decide)) u476 (by decide)).2.2.2.2.2.2.2.2.2.2.2.2) (kV (fun M492 hI492 fr492 v491p => ?_))
                        have hFm492 := hFm476.call fr492 rfl
                        have hFj443492 := hFj443476.call fr492 rfl
                        have tr493 := (fr492 63 9 rfl)
                        have tr494 := (fr492 63 35 rfl)
                        have tr495 := (fr492 63 42 rfl)
                        have tr496 := (fr492 63 43 rfl)
                        have tr497 := (fr492 63 45 rfl)
                        have tr498 := (fr492 63 10 rfl)
                        have tr499 := (fr492 63 46 rfl)
                        have tr500 := rg_63_9 hI492
                        refine s_iconst (v := 1) kx_197_617 (by decide) ?_
                        have hk501 : M492 63 9 = v12 := ((fr492 63 9 rfl).trans ((u476.2 63 9 (by omega)).trans ((u462.2 63 9 (by omega)).trans ((fr449 63 9 rfl).trans v12e))))
                        exact s_iret kx_197_618 (Or.inr ⟨kq_197, by omega⟩) ⟨_, _, rfl, rfl, hI492, hFm492, ⟨by omega, by omega, (show LXp M492 from v491p.2.2), (by omega), (by omega), ⟨(Or.inr (Or.inr ⟨rfl, by omega, Or.inr ⟨((fr492 63 46 rfl).trans ((u476.2 63 46 (by omega)).trans ((u462.2 63 46 (by omega)).trans ((fr449 63 46 rfl).trans (fr2 63 46 rfl))))), (B0.fr (B0.up (show B0 M462 from hcl473.2.1) u476 (by decide)) fr492 rfl (fun _ => rfl)), PI.to7 (PI.fr hP489 fr492 rfl) (by omega)⟩⟩)), (KP.fr (KP.up (KP.up hK460 u462 (by decide)) u476 (by decide)) fr492 (fun _ => rfl))⟩, (StG.l (g_cl (c := 41) hK5 hA hC hB9 (by omega) (by omega) (by omega) (by omega)) rfl (by omega) (QJ.fr (QJ.opn (e' := 0) hqj474 u476 (by omega)) fr492 rfl) (by omega) v491p.1)⟩⟩
                      · refine s_aload_n kx_197_585 rfl ?_
                        refine s_aload_n kx_197_586 rfl ?_
                        refine r_getR (k := 63) (f := 40) (k2 := 88) kx_197_587 kp_197_134 (tk_63 hT) kf_12_40 (by decide) (rq_63_40 hI476) ?_
                        refine s_iload_n kx_197_590 rfl ?_
                        refine r_ald (k := 88) kx_197_591 (tk_88 hT) ⟨by omega, by omega⟩ (rg_88 hI476) (fun v502 v502e v502a v502b => ?_)
                        have hpr503 : v502 = M449 88 ((v14 - 1)).toNat := (v502e).symm.trans ((u476.2 88 _ (by omega)).trans (u462.2 88 _ (by omega)))
                        refine s_iconst (v := 0) kx_197_592 (by decide) ?_
                        refine s_callV2 (k := 63) (s1 := 3) (s2 := 0) (as := [(0, 0), (0, v502)]) (rest := []) kx_197_593 kp_197_352 (Or.inl rfl) rfl (tk_63 hT) ki_189 kcl_189 rfl rfl (by decide) (m_189 (d := d + 1) (sort := v502) (v_ := 0) hT hI476 (by omega) (by omega)) (kV (fun M505 hI505 fr505 v504p => ?_))
                        have hFm505 := hFm476.call fr505 rfl
                        have hFj443505 := hFj443476.call fr505 rfl
                        have tr506 := (fr505 63 3 rfl)
                        have tr507 := (fr505 63 4 rfl)
                        have tr508 := (fr505 63 5 rfl)
                        have tr509 := (fr505 63 9 rfl)
                        have tr510 := (fr505 63 42 rfl)
                        have tr511 := (fr505 63 43 rfl)
                        have tr512 := (fr505 63 45 rfl)
                        have tr513 := (fr505 63 10 rfl)
                        have tr514 := (fr505 63 46 rfl)
                        have tr515 := rg_63_9 hI505
                        have hP516 := PI.code4 hP487 (by omega) (hcl473.2.2.2 (by omega)) fr505 v504p.1 (v504p.2.1.trans hpr503) v504p.2.2
                        have hK517 := KP.add (KP.up (KP.up hK460 u462 (by decide)) u476 (by decide)) ((u476.2 63 36 (by omega)).trans ((u462.2 63 36 (by omega)).trans ((fr449 63 36 rfl).trans (fr2 63 36 rfl)))) ⟨(rg_63_35 hI476).1, by omega⟩ (rg_63_36 hI476).1 v504p.2.2
                        refine s_iload_n kx_197_596 rfl ?_
                        refine s_iconst (v := 5) kx_197_597 (by decide) ?_
                        refine s_icmp_ne (t := 613) kx_197_598 (by decide) (fun hc518 => ?_) (fun hc518 => absurd hc518 (by omega))
                        refine s_aload_n kx_197_613 rfl ?_
                        refine s_callV2 (k := 63) (s1 := 1) (s2 := 0) (as := []) (rest := []) kx_197_614 kp_197_286 (Or.inl rfl) rfl (tk_63 hT) ki_180 kcl_180 rfl rfl (by decide) (f_180 (d := d) hT hI505 (LyA.fr (LyA.up (LyA.up (LyA.fr hz.2 fr449 rfl) u462 (by decide)) u476 (by decide)) fr505 rfl).1 (LyA.fr (LyA.up (LyA.up (LyA.fr hz.2 fr449 rfl) u462 (by decide)) u476 (by decide)) fr505 rfl).2.1 (LyA.fr (LyA.up (LyA.up (LyA.fr hz.2 fr449 rfl) u462 (by decide)) u476 (by decide)) fr505 rfl).2.2.2.2.2.1 (owE_i2 ⟨(LyA.fr (LyA.up (LyA.up (LyA.fr hz.2 fr449 rfl) u462 (by decide)) u476 (by decide)) fr505 rfl).2.2.1, (LyA.fr (LyA.up (LyA.up (LyA.fr hz.2 fr449 rfl) u462 (by decide)) u476 (by decide)) fr505 rfl).2.2.2.1⟩).1 (owE_i2 ⟨(LyA.fr (LyA.up (LyA.up (LyA.fr hz.2 fr449 rfl) u462 (by decide)) u476 (by decide)) fr505 rfl).2.2.1, (LyA.fr (LyA.up (LyA.up (LyA.fr hz.2 fr449 rfl) u462 (by decide)) u476 (by decide)) fr505 rfl).2.2.2.1⟩).2 (LyA.fr (LyA.up (LyA.up (LyA.fr hz.2 fr449 rfl) u462 (by decide)) u476 (by decide)) fr505 rfl).2.2.2.2.2.2.2.2.2.2.2.2) (kV (fun M520 hI520 fr520 v519p => ?_))
                        have hFm520 := hFm505.call fr520 rfl
                        have hFj443520 := hFj443505.call fr520 rfl
                        have tr521 := (fr520 63 9 rfl)
                        have tr522 := (fr520 63 35 rfl)
                        have tr523 := (fr520 63 42 rfl)
                        have tr524 := (fr520 63 43 rfl)
                        have tr525 := (fr520 63 45 rfl)
                        have tr526 := (fr520 63 10 rfl)
                        have tr527 := (fr520 63 46 rfl)
                        have tr528 := rg_63_9 hI520
                        refine s_iconst (v := 1) kx_197_617 (by decide) ?_
                        have hk529 : M520 63 9 = v12 := ((fr520 63 9 rfl).trans ((fr505 63 9 rfl).trans ((u476.2 63 9 (by omega)).trans ((u462.2 63 9 (by omega)).trans ((fr449 63 9 rfl).trans v12e)))))
                        exact s_iret kx_197_618 (Or.inr ⟨kq_197, by omega⟩) ⟨_, _, rfl, rfl, hI520, hFm520, ⟨by omega, by omega, (show LXp M520 from v519p.2.2), (by omega), (by omega), ⟨(Or.inr (Or.inr ⟨rfl, by omega, Or.inr ⟨((fr520 63 46 rfl).trans ((fr505 63 46 rfl).trans ((u476.2 63 46 (by omega)).trans ((u462.2 63 46 (by omega)).trans ((fr449 63 46 rfl).trans (fr2 63 46 rfl)))))), (B0.fr (B0.fr (B0.up (show B0 M462 from hcl473.2.1) u476 (by decide)) fr505 rfl (fun _ => rfl)) fr520 rfl (fun _ => rfl)), PI.to7 (PI.fr hP516 fr520 rfl) (by omega)⟩⟩)), (KP.fr hK517 fr520 (fun _ => rfl))⟩, (StG.l (g_cl (c := 41) hK5 hA hC hB9 (by omega) (by omega) (by omega) (by omega)) rfl (by omega) (QJ.fr (QJ.fr (QJ.opn (e' := 0) hqj474 u476 (by omega)) fr505 rfl) fr520 rfl) (by omega) v519p.1)⟩⟩
                    · replace v444p := v444p.resolve_left (by omega)
                      refine s_aload_n kx_197_537 rfl ?_
                      refine s_iconst (v := 1) kx_197_538 (by decide) ?_
                      refine s_aload_n kx_197_539 rfl ?_
                      refine r_getI (k := 63) (f := 4) kx_197_540 kp_197_23 (tk_63 hT) kf_12_4 (fun _ => rfl) (rg_63_4 hI2) (fun v530 v530e v530a v530b => ?_)
                      have v530z : M 63 4 = v530 := ((fr2 63 4 rfl)).symm.trans v530e
                      refine s_callV2 (k := 63) (s1 := 3) (s2 := 0) (as := [(0, v530), (0, 1)]) (rest := []) kx_197_543 kp_197_263 (Or.inl rfl) rfl (tk_63 hT) ki_176 kcl_176 rfl rfl (by decide) (f_176 (d := d + 1) (kind := 1) (place := v530) hT hI2 (by omega)) (kV (fun M532 hI532 fr532 v531p => ?_))
                      have hFm532 := hFm2.call fr532 rfl
                      have hFj443532 := hJ441.call fr532 rfl
                      have tr533 := (fr532 63 3 rfl)
                      have tr534 := (fr532 63 4 rfl)
                      have tr535 := (fr532 63 5 rfl)
                      have tr536 := (fr532 63 35 rfl)
                      have tr537 := (fr532 63 42 rfl)
                      have tr538 := (fr532 63 43 rfl)
                      have tr539 := (fr532 63 45 rfl)
                      have tr540 := (fr532 63 46 rfl)
                      have tr541 := rg_63_9 hI532
                      refine s_aload_n kx_197_546 rfl ?_
                      refine r_getI (k := 63) (f := 9) kx_197_547 kp_197_39 (tk_63 hT) kf_12_9 (fun _ => rfl) (rg_63_9 hI532) (fun v542 v542e v542a v542b => ?_)
                      refine s_if_le (t := 555) kx_197_550 (by decide) (fun hc543 => ?_) (fun hc543 => ?_)
                      · exact absurd h639 (by omega)
                      · refine s_iconst (v := 0) kx_197_553 (by decide) ?_
                        have hk544 : M532 63 4 = v530 := ((fr532 63 4 rfl).trans v530e)
                        have hk545 : M532 63 9 = v542 := v542e
                        exact s_iret kx_197_554 (Or.inr ⟨kq_197, by omega⟩) ⟨_, _, rfl, rfl, hI532, hFm532, ⟨by omega, by omega, (LXp.fr (LXp.fr hX fr2 rfl) fr532 rfl), (by omega), (by omega), ⟨(Or.inl (by omega)), (KP.fr (KP.fr (KP.refl (M := M)) fr2 (fun _ => rfl)) fr532 (fun _ => rfl))⟩, (StG.r (g_clx (c := 41) hK5 hA hC hB9 (by omega) (by omega) (by omega)) rfl (owFl2 (k := 1) (x := owB s n p) (by omega) (by omega) (by decide) (by omega) (by unfold owU; rw [if_neg hK5]; omega)))⟩⟩
                  · refine s_bipush (v := 93) kx_197_524 (by decide) ?_
                    refine s_goto (t := 531) kx_197_526 (by decide) ?_
                    refine s_callV2 (k := 63) (s1 := 2) (s2 := 0) (as := [(0, 93)]) (rest := []) kx_197_531 kp_197_283 (Or.inl rfl) rfl (tk_63 hT) ki_181 kcl_181 rfl rfl (by decide) (m_181 (d := d + 1) (c := 93) hT hI2) (kF (fun v546 v546p => ?_))
                    have hiss547 := (hz.2.iss (c := 93))
                    refine s_if_ne (t := 546) kx_197_534 (by decide) (fun hc548 => ?_) (fun hc548 => ?_)
                    · replace v546p := v546p.resolve_right (by omega)
                      refine s_aload_n kx_197_546 rfl ?_
                      refine r_getK (k := 63) (f := 9) kx_197_547 kp_197_39 (tk_63 hT) kf_12_9 (fun _ => rfl) v12e ?_
                      refine s_if_le (t := 555) kx_197_550 (by decide) (fun hc549 => ?_) (fun hc549 => absurd hc549 (by omega))
                      refine s_aload_n kx_197_555 rfl ?_
                      refine s_iconst (v := 1) kx_197_556 (by decide) ?_
                      refine s_callV2 (k := 63) (s1 := 2) (s2 := 0) (as := [(0, 1)]) (rest := []) kx_197_557 kp_197_370 (Or.inl rfl) rfl (tk_63 hT) ki_191 kcl_191 rfl rfl (by decide) (f_191 (d := d) (least := 1) hT hI2 (PI.fr hP fr2 rfl) (QJ.fr hQ fr2 rfl) (by omega) (by omega) (by omega)) (kV (fun M551 hI551 fr551 v550p => ?_))
                      have hFm551 := hFm2.call fr551 rfl
                      have hFj443551 := hJ441.call fr551 rfl
                      have tr552 := (fr551 63 3 rfl)
                      have tr553 := (fr551 63 4 rfl)
                      have tr554 := (fr551 63 5 rfl)
                      have tr555 := (fr551 63 9 rfl)
                      have tr556 := (fr551 63 42 rfl)
                      have tr557 := (fr551 63 10 rfl)
                      have tr558 := (fr551 63 46 rfl)
                      have tr559 := rg_63_9 hI551
                      have hd560 := PI.deep v550p.1
                      have hs561 := PI.small v550p.1 (rg_63_43 hI551).2 (by decide)
                      have hs561a := hs561.1
                      have hs561b := hs561.2.1
                      have hs561c := rg_63_45 hI551
                      have hK562 := KP.trans (KP.fr (KP.refl (M := M)) fr2 (fun _ => rfl)) (fr2 63 36 rfl) v550p.2.1
                      have hqj563 := QJ.j1 v550p.2.2
                      refine s_aload_n kx_197_560 rfl ?_
                      refine s_dup kx_197_561 rfl ?_
                      refine r_getK (k := 63) (f := 42) kx_197_562 kp_197_140 (tk_63 hT) kf_12_42 (fun _ => rfl) ((fr551 63 42 rfl).trans v14e) ?_
                      refine s_iconst (v := 1) kx_197_565 (by decide) ?_
                      refine r_sub kx_197_566 ⟨by omega, by omega⟩ ?_
                      refine r_put (k := 63) (f := 42) kx_197_567 kp_197_140 (tk_63 hT) kf_12_42 rfl (by decide) (by decide) hI551 (ru_63_42 (by omega) (by omega)) (fun M564 hI564 u564 => ?_)
                      have hFm564 := hFm551.up u564 rfl
                      have hFj443564 := hFj443551.up u564 rfl
                      have tr565 := (u564.2 63 3 (by omega))
                      have tr566 := (u564.2 63 4 (by omega))
                      have tr567 := (u564.2 63 5 (by omega))
                      have tr568 := (u564.2 63 9 (by omega))
                      have tr569 := (u564.2 63 35 (by omega))
                      have tr570 := u564.1
                      have tr571 := (u564.2 63 43 (by omega))
                      have tr572 := (u564.2 63 45 (by omega))
                      have tr573 := (u564.2 63 10 (by omega))
                      have tr574 := (u564.2 63 46 (by omega))
                      have hcl575 := PI.close v550p.1 (by decide) (f := (v14 - 1)) (by omega) ((fr551 85 _ rfl).trans v15e) (by omega) u564 (by omega)
                      have hcl575d := hcl575.2.2.1
                      have hcl575q := PI.deep hcl575.1
                      obtain ⟨k2, ph2, bg2, pr2, os2, gs2, rfl⟩ := (hqj563).two (by omega)
                      have hqj576 := QJ.close hqj563 u564 (by omega)
                      refine s_aload_n kx_197_570 rfl ?_
                      refine s_dup kx_197_571 rfl ?_
                      refine r_getI (k := 63) (f := 43) kx_197_572 kp_197_143 (tk_63 hT) kf_12_43 (fun _ => rfl) (rg_63_43 hI564) (fun v577 v577e v577a v577b => ?_)
                      refine s_iconst (v := 1) kx_197_575 (by decide) ?_
                      refine r_sub kx_197_576 ⟨by omega, by omega⟩ ?_
                      have hcl575e := PI.e_le hcl575.1
                      refine r_put (k := 63) (f := 43) kx_197_577 kp_197_143 (tk_63 hT) kf_12_43 rfl (by decide) (by decide) hI564 (ru_63_43 (by omega) (by omega)) (fun M578 hI578 u578 => ?_)
                      have hFm578 := hFm564.up u578 rfl
                      have hFj443578 := hFj443564.up u578 rfl
                      have tr579 := (u578.2 63 3 (by omega))
                      have tr580 := (u578.2 63 4 (by omega))
                      have tr581 := (u578.2 63 5 (by omega))
                      have tr582 := (u578.2 63 9 (by omega))
                      have tr583 := (u578.2 63 35 (by omega))
                      have tr584 := (u578.2 63 42 (by omega))
                      have tr585 := u578.1
                      have tr586 := (u578.2 63 45 (by omega))
                      have tr587 := (u578.2 63 10 (by omega))
                      have tr588 := (u578.2 63 46 (by omega))
                      have hP589 := (PI.opn (e' := 0) hcl575.1 u578 (by omega))
                      refine s_iload_n kx_197_580 rfl ?_
                      refine s_iconst (v := 4) kx_197_581 (by decide) ?_
                      refine s_icmp_ne (t := 596) kx_197_582 (by decide) (fun hc590 => ?_) (fun hc590 => absurd hc590 (by omega))
                      have hP591 := PI.comp0 hP589 (by omega)
                      refine s_iload_n kx_197_596 rfl ?_
                      refine s_iconst (v := 5) kx_197_597 (by decide) ?_
                      refine s_icmp_ne (t := 613) kx_197_598 (by decide) (fun hc592 => absurd hc592 (by omega)) (fun hc592 => ?_)
                      refine s_aload_n kx_197_601 rfl ?_
                      refine r_getR (k := 63) (f := 38) (k2 := 86) kx_197_602 kp_197_127 (tk_63 hT) kf_12_38 (by decide) (rq_63_38 hI578) ?_
                      refine s_aload_n kx_197_605 rfl ?_
                      refine r_getK (k := 63) (f := 42) kx_197_606 kp_197_140 (tk_63 hT) kf_12_42 (fun _ => rfl) ((u578.2 63 42 (by omega)).trans u564.1) ?_
                      refine s_iconst (v := 1) kx_197_609 (by decide) ?_
                      refine r_sub kx_197_610 ⟨by omega, by omega⟩ ?_
                      refine s_iconst (v := 2) kx_197_611 (by decide) ?_
                      refine r_ast (k := 86) kx_197_612 (tk_86 hT) ⟨by omega, by omega⟩ hI578 (ru_86 (by omega) (by omega)) (fun M593 hI593 u593 => ?_)
                      have hFm593 := hFm578.up u593 rfl
                      have hFj443593 := hFj443578.up u593 rfl
                      have tr594 := (u593.2 63 3 (by omega))
                      have tr595 := (u593.2 63 4 (by omega))
                      have tr596 := (u593.2 63 5 (by omega))
                      have tr597 := (u593.2 63 9 (by omega))
                      have tr598 := (u593.2 63 35 (by omega))
                      have tr599 := (u593.2 63 42 (by omega))
                      have tr600 := (u593.2 63 43 (by omega))
                      have tr601 := (u593.2 63 45 (by omega))
                      have tr602 := (u593.2 63 10 (by omega))
                      have tr603 := (u593.2 63 46 (by omega))
                      refine s_aload_n kx_197_613 rfl ?_
                      refine s_callV2 (k := 63) (s1 := 1) (s2 := 0) (as := []) (rest := []) kx_197_614 kp_197_286 (Or.inl rfl) rfl (tk_63 hT) ki_180 kcl_180 rfl rfl (by decide) (f_180 (d := d) hT hI593 (LyA.up (LyA.up (LyA.up (LyA.fr hz.2 fr551 rfl) u564 (by decide)) u578 (by decide)) u593 ⟨by decide, Or.inl (by decide)⟩).1 (LyA.up (LyA.up (LyA.up (LyA.fr hz.2 fr551 rfl) u564 (by decide)) u578 (by decide)) u593 ⟨by decide, Or.inl (by decide)⟩).2.1 (LyA.up (LyA.up (LyA.up (LyA.fr hz.2 fr551 rfl) u564 (by decide)) u578 (by decide)) u593 ⟨by decide, Or.inl (by decide)⟩).2.2.2.2.2.1 (owE_i2 ⟨(LyA.up (LyA.up (LyA.up (LyA.fr hz.2 fr551 rfl) u564 (by decide)) u578 (by decide)) u593 ⟨by decide, Or.inl (by decide)⟩).2.2.1, (LyA.up (LyA.up (LyA.up (LyA.fr hz.2 fr551 rfl) u564 (by decide)) u578 (by decide)) u593 ⟨by decide, Or.inl (by decide)⟩).2.2.2.1⟩).1 (owE_i2 ⟨(LyA.up (LyA.up (LyA.up (LyA.fr hz.2 fr551 rfl) u564 (by decide)) u578 (by decide)) u593 ⟨by decide, Or.inl (by decide)⟩).2.2.1, (LyA.up (LyA.up (LyA.up (LyA.fr hz.2 fr551 rfl) u564 (by decide)) u578 (by decide)) u593 ⟨by decide, Or.inl (by decide)⟩).2.2.2.1⟩).2 (LyA.up (LyA.up (LyA.up (LyA.fr hz.2 fr551 rfl) u564 (by decide)) u578 (by decide)) u593 ⟨by decide, Or.inl (by decide)⟩).2.2.2.2.2.2.2.2.2.2.2.2) (kV (fun M605 hI605 fr605 v604p => ?_))
                      have hFm605 := hFm593.call fr605 rfl
                      have hFj443605 := hFj443593.call fr605 rfl
                      have tr606 := (fr605 63 9 rfl)
                      have tr607 := (fr605 63 35 rfl)
                      have tr608 := (fr605 63 42 rfl)
                      have tr609 := (fr605 63 43 rfl)
                      have tr610 := (fr605 63 45 rfl)
                      have tr611 := (fr605 63 10 rfl)
                      have tr612 := (fr605 63 46 rfl)
                      have tr613 := rg_63_9 hI605
                      refine s_iconst (v := 1) kx_197_617 (by decide) ?_
                      have hk614 : M605 63 9 = v12 := ((fr605 63 9 rfl).trans ((u593.2 63 9 (by omega)).trans ((u578.2 63 9 (by omega)).trans ((u564.2 63 9 (by omega)).trans ((fr551 63 9 rfl).trans v12e)))))
                      exact s_iret kx_197_618 (Or.inr ⟨kq_197, by omega⟩) ⟨_, _, rfl, rfl, hI605, hFm605, ⟨by omega, by omega, (show LXp M605 from v604p.2.2), (by omega), (by omega), ⟨(Or.inr (Or.inr ⟨rfl, by omega, Or.inr ⟨((fr605 63 46 rfl).trans ((u593.2 63 46 (by omega)).trans ((u578.2 63 46 (by omega)).trans ((u564.2 63 46 (by omega)).trans ((fr551 63 46 rfl).trans (fr2 63 46 rfl)))))), (B0.fr (B0.up (B0.up (show B0 M564 from hcl575.2.1) u578 (by decide)) u593 ⟨by decide, Or.inl (by decide)⟩) fr605 rfl (fun _ => rfl)), PI.to7 (PI.fr (PI.phase hP591 (Or.inl (by decide)) (by omega) u593) fr605 rfl) (by omega)⟩⟩)), (KP.fr (KP.up (KP.up (KP.up hK562 u564 (by decide)) u578 (by decide)) u593 (by decide)) fr605 (fun _ => rfl))⟩, (StG.l (g_cl (c := 93) hK5 hA hC hB9 (by omega) (by omega) (by omega) (by omega)) rfl (by omega) (QJ.fr (QJ.phs (QJ.opn (e' := 0) hqj576 u578 (by omega)) (by omega) u593) fr605 rfl) (by omega) v604p.1)⟩⟩
                    · replace v546p := v546p.resolve_left (by omega)
                      refine s_aload_n kx_197_537 rfl ?_
                      refine s_iconst (v := 1) kx_197_538 (by decide) ?_
                      refine s_aload_n kx_197_539 rfl ?_
                      refine r_getI (k := 63) (f := 4) kx_197_540 kp_197_23 (tk_63 hT) kf_12_4 (fun _ => rfl) (rg_63_4 hI2) (fun v615 v615e v615a v615b => ?_)
                      have v615z : M 63 4 = v615 := ((fr2 63 4 rfl)).symm.trans v615e
                      refine s_callV2 (k := 63) (s1 := 3) (s2 := 0) (as := [(0, v615), (0, 1)]) (rest := []) kx_197_543 kp_197_263 (Or.inl rfl) rfl (tk_63 hT) ki_176 kcl_176 rfl rfl (by decide) (f_176 (d := d + 1) (kind := 1) (place := v615) hT hI2 (by omega)) (kV (fun M617 hI617 fr617 v616p => ?_))
                      have hFm617 := hFm2.call fr617 rfl
                      have hFj443617 := hJ441.call fr617 rfl
                      have tr618 := (fr617 63 3 rfl)
                      have tr619 := (fr617 63 4 rfl)
                      have tr620 := (fr617 63 5 rfl)
                      have tr621 := (fr617 63 35 rfl)
                      have tr622 := (fr617 63 42 rfl)
                      have tr623 := (fr617 63 43 rfl)
                      have tr624 := (fr617 63 45 rfl)
                      have tr625 := (fr617 63 46 rfl)
                      have tr626 := rg_63_9 hI617
                      refine s_aload_n kx_197_546 rfl ?_
                      refine r_getI (k := 63) (f := 9) kx_197_547 kp_197_39 (tk_63 hT) kf_12_9 (fun _ => rfl) (rg_63_9 hI617) (fun v627 v627e v627a v627b => ?_)
                      refine s_if_le (t := 555) kx_197_550 (by decide) (fun hc628 => ?_) (fun hc628 => ?_)
                      · exact absurd h639 (by omega)
                      · refine s_iconst (v := 0) kx_197_553 (by decide) ?_
                        have hk629 : M617 63 4 = v615 := ((fr617 63 4 rfl).trans v615e)
                        have hk630 : M617 63 9 = v627 := v627e
                        exact s_iret kx_197_554 (Or.inr ⟨kq_197, by omega⟩) ⟨_, _, rfl, rfl, hI617, hFm617, ⟨by omega, by omega, (LXp.fr (LXp.fr hX fr2 rfl) fr617 rfl), (by omega), (by omega), ⟨(Or.inl (by omega)), (KP.fr (KP.fr (KP.refl (M := M)) fr2 (fun _ => rfl)) fr617 (fun _ => rfl))⟩, (StG.r (g_clx (c := 93) hK5 hA hC hB9 (by omega) (by omega) (by omega)) rfl (owFl2 (k := 1) (x := owB s n p) (by omega) (by omega) (by decide) (by omega) (by unfold owU; rw [if_neg hK5]; omega)))⟩⟩
                · exact cP.wk (lS1 rfl (lS1 rfl (lS1 rfl lS0))) (jn631 (by omega) (by omega))
            · refine s_aload_n kx_197_427 rfl ?_
              refine r_getK (k := 63) (f := 9) kx_197_428 kp_197_39 (tk_63 hT) kf_12_9 (fun _ => rfl) v12e ?_
              refine s_if_ne (t := 439) kx_197_431 (by decide) (fun hc721 => absurd hc721 (by omega)) (fun hc721 => ?_)
              refine s_aload_n kx_197_434 rfl ?_
              refine s_iconst (v := 1) kx_197_435 (by decide) ?_
              refine s_callV2 (k := 63) (s1 := 2) (s2 := 0) (as := [(0, 1)]) (rest := []) kx_197_436 kp_197_370 (Or.inl rfl) rfl (tk_63 hT) ki_191 kcl_191 rfl rfl (by decide) (f_191 (d := d) (least := 1) hT hI2 (PI.fr hP fr2 rfl) (QJ.fr hQ fr2 rfl) (by omega) (by omega) (by omega)) (kV (fun M723 hI723 fr723 v722p => ?_))
              have hFm723 := hFm2.call fr723 rfl
              have tr724 := (fr723 63 3 rfl)
              have tr725 := (fr723 63 4 rfl)
              have tr726 := (fr723 63 5 rfl)
              have tr727 := (fr723 63 9 rfl)
              have tr728 := (fr723 63 42 rfl)
              have tr729 := (fr723 63 10 rfl)
              have tr730 := (fr723 63 46 rfl)
              have tr731 := rg_63_9 hI723
              have hK732 := KP.trans (KP.fr (KP.refl (M := M)) fr2 (fun _ => rfl)) (fr2 63 36 rfl) v722p.2.1
              refine s_iconst (v := 0) kx_197_439 (by decide) ?_
              have hk733 : M723 63 9 = v12 := ((fr723 63 9 rfl).trans v12e)
              exact s_iret kx_197_440 (Or.inr ⟨kq_197, by omega⟩) ⟨_, _, rfl, rfl, hI723, hFm723, ⟨by omega, by omega, (LXp.fr (LXp.fr hX fr2 rfl) fr723 rfl), (by omega), (by omega), ⟨(if h9 : 1 ≤ M723 63 9 then Or.inl h9 else Or.inr (Or.inl ⟨rfl, PI.to7 v722p.1 (by omega)⟩)), hK732⟩, (StG.d (g_end hK5 hA hC hB9 (by omega)) rfl (by omega) (LyA.fr hz.2 fr723 rfl))⟩⟩
          refine s_if_eq (t := 422) kx_197_401 (by decide) (fun hc341 => ?_) (fun hc341 => ?_)
          · have hJ342 : Fr gS_197_j401 M2 M2 := Fr.refl
            exact cP.wk (lS1 rfl (lS1 rfl (lS1 rfl lS0))) (jn436 ⟨hB1, fun g => by have g1 := g.1; have g2 := g.2; omega⟩)
          · have hJ343 : Fr gS_197_j401 M2 M2 := Fr.refl
            refine s_aload_n kx_197_404 rfl ?_
            refine r_getR (k := 63) (f := 38) (k2 := 86) kx_197_405 kp_197_127 (tk_63 hT) kf_12_38 (by decide) (rq_63_38 hI2) ?_
            refine s_iload_n kx_197_408 rfl ?_
            refine r_aldK (k := 86) kx_197_409 (tk_86 hT) ⟨by omega, by omega⟩ v17e ?_
            refine s_if_ne (t := 422) kx_197_410 (by decide) (fun hc344 => ?_) (fun hc344 => ?_)
            · exact cP.wk (lS1 rfl (lS1 rfl (lS1 rfl lS0))) (jn436 ⟨hB1, fun g => by have g1 := g.1; have g2 := g.2; omega⟩)
            · refine s_aload_n kx_197_413 rfl ?_
              refine s_iconst (v := 1) kx_197_414 (by decide) ?_
              refine s_aload_n kx_197_415 rfl ?_
              refine r_getI (k := 63) (f := 4) kx_197_416 kp_197_23 (tk_63 hT) kf_12_4 (fun _ => rfl) (rg_63_4 hI2) (fun v345 v345e v345a v345b => ?_)
              have v345z : M 63 4 = v345 := ((fr2 63 4 rfl)).symm.trans v345e
              refine s_callV2 (k := 63) (s1 := 3) (s2 := 0) (as := [(0, v345), (0, 1)]) (rest := []) kx_197_419 kp_197_263 (Or.inl rfl) rfl (tk_63 hT) ki_176 kcl_176 rfl rfl (by decide) (f_176 (d := d + 1) (kind := 1) (place := v345) hT hI2 (by omega)) (kV (fun M347 hI347 fr347 v346p => ?_))
              have hFm347 := hFm2.call fr347 rfl
              have hFj401347 := hJ343.call fr347 rfl
              have tr348 := (fr347 63 3 rfl)
              have tr349 := (fr347 63 4 rfl)
              have tr350 := (fr347 63 5 rfl)
              have tr351 := (fr347 63 35 rfl)
              have tr352 := (fr347 63 42 rfl)
              have tr353 := (fr347 63 43 rfl)
              have tr354 := (fr347 63 45 rfl)
              have tr355 := (fr347 63 46 rfl)
              have tr356 := rg_63_9 hI347
              refine s_iload_n kx_197_422 rfl ?_
              refine s_iconst (v := 2) kx_197_423 (by decide) ?_
              refine s_icmp_ge (t := 441) kx_197_424 (by decide) (fun hc357 => ?_) (fun hc357 => ?_)
              · refine s_iload_n kx_197_441 rfl ?_
                refine s_iconst (v := 3) kx_197_442 (by decide) ?_
                have jn407 : (3 ≤ v15) → (v15 = 3 ∨ v15 = 6) → cP k_P xs Ln (d + 2) 197 452 [(0, rf 63), (1, (0, (v14 - 1))), (2, (0, v15))] [] (T, M347) (qW T M gS_197_m 0 (fun v M1 => 0 ≤ v ∧ v ≤ 1 ∧ (LXp M1 ∧ M 63 4 ≤ M1 63 4 ∧ M 63 9 ≤ M1 63 9 ∧ (GOd M M1 c a v ∧ KP M M1) ∧ (StG M1 s n (pSt s n (1, (k_, ph, bg, pr, os_) :: fs_, cs, p)) v)))) := by
                  intro a408 a409
                  refine s_aload_n kx_197_452 rfl ?_
                  refine s_bipush (v := 44) kx_197_453 (by decide) ?_
                  refine s_callV2 (k := 63) (s1 := 2) (s2 := 0) (as := [(0, 44)]) (rest := []) kx_197_455 kp_197_283 (Or.inl rfl) rfl (tk_63 hT) ki_181 kcl_181 rfl rfl (by decide) (m_181 (d := d + 1) (c := 44) hT hI347) (kF (fun v410 v410p => ?_))
                  have hiss411 := ((isS_fr (c := 44) fr347 rfl rfl).trans (hz.2.iss (c := 44)))
                  refine s_if_ne (t := 470) kx_197_458 (by decide) (fun hc412 => ?_) (fun hc412 => ?_)
                  · replace v410p := v410p.resolve_right (by omega)
                    refine s_aload_n kx_197_470 rfl ?_
                    refine r_getI (k := 63) (f := 9) kx_197_471 kp_197_39 (tk_63 hT) kf_12_9 (fun _ => rfl) (rg_63_9 hI347) (fun v413 v413e v413a v413b => ?_)
                    refine s_if_le (t := 479) kx_197_474 (by decide) (fun hc414 => ?_) (fun hc414 => ?_)
                    · exact absurd h639 (by omega)
                    · refine s_iconst (v := 0) kx_197_477 (by decide) ?_
                      have hk415 : M347 63 4 = v345 := ((fr347 63 4 rfl).trans v345e)
                      have hk416 : M347 63 9 = v413 := v413e
                      exact s_iret kx_197_478 (Or.inr ⟨kq_197, by omega⟩) ⟨_, _, rfl, rfl, hI347, hFm347, ⟨by omega, by omega, (LXp.fr (LXp.fr hX fr2 rfl) fr347 rfl), (by omega), (by omega), ⟨(Or.inl (by omega)), (KP.fr (KP.fr (KP.refl (M := M)) fr2 (fun _ => rfl)) fr347 (fun _ => rfl))⟩, (StG.r (g_bo0 hK5 hA hC (by unfold pT; omega) (by omega)) rfl (owFl2 (k := 1) (x := owB s n p) (by omega) (by omega) (by decide) (by omega) (by unfold owU; rw [if_neg hK5]; omega)))⟩⟩
                  · replace v410p := v410p.resolve_left (by omega)
                    refine s_aload_n kx_197_461 rfl ?_
                    refine s_iconst (v := 1) kx_197_462 (by decide) ?_
                    refine s_aload_n kx_197_463 rfl ?_
                    refine r_getK (k := 63) (f := 4) kx_197_464 kp_197_23 (tk_63 hT) kf_12_4 (fun _ => rfl) ((fr347 63 4 rfl).trans v345e) ?_
                    refine s_callV2 (k := 63) (s1 := 3) (s2 := 0) (as := [(0, v345), (0, 1)]) (rest := []) kx_197_467 kp_197_263 (Or.inl rfl) rfl (tk_63 hT) ki_176 kcl_176 rfl rfl (by decide) (f_176 (d := d + 1) (kind := 1) (place := v345) hT hI347 (by omega)) (kV (fun M418 hI418 fr418 v417p => ?_))
                    have hFm418 := hFm347.call fr418 rfl
                    have hFj401418 := hFj401347.call fr418 rfl
                    have tr419 := (fr418 63 3 rfl)
                    have tr420 := (fr418 63 4 rfl)
                    have tr421 := (fr418 63 5 rfl)
                    have tr422 := (fr418 63 35 rfl)
                    have tr423 := (fr418 63 42 rfl)
                    have tr424 := (fr418 63 43 rfl)
                    have tr425 := (fr418 63 45 rfl)
                    have tr426 := (fr418 63 46 rfl)
                    have tr427 := rg_63_9 hI418
                    refine s_aload_n kx_197_470 rfl ?_
                    refine r_getI (k := 63) (f := 9) kx_197_471 kp_197_39 (tk_63 hT) kf_12_9 (fun _ => rfl) (rg_63_9 hI418) (fun v428 v428e v428a v428b => ?_)
                    refine s_if_le (t := 479) kx_197_474 (by decide) (fun hc429 => ?_) (fun hc429 => ?_)
                    · exact absurd h639 (by omega)
                    · refine s_iconst (v := 0) kx_197_477 (by decide) ?_
                      have hk430 : M418 63 4 = v345 := ((fr418 63 4 rfl).trans ((fr347 63 4 rfl).trans v345e))
                      have hk431 : M418 63 9 = v428 := v428e
                      exact s_iret kx_197_478 (Or.inr ⟨kq_197, by omega⟩) ⟨_, _, rfl, rfl, hI418, hFm418, ⟨by omega, by omega, (LXp.fr (LXp.fr (LXp.fr hX fr2 rfl) fr347 rfl) fr418 rfl), (by omega), (by omega), ⟨(Or.inl (by omega)), (KP.fr (KP.fr (KP.fr (KP.refl (M := M)) fr2 (fun _ => rfl)) fr347 (fun _ => rfl)) fr418 (fun _ => rfl))⟩, (StG.r (g_bo0 hK5 hA hC (by unfold pT; omega) (by omega)) rfl (owFl2 (k := 1) (x := owB s n p) (by omega) (by omega) (by decide) (by omega) (by unfold owU; rw [if_neg hK5]; omega)))⟩⟩
                refine s_icmp_eq (t := 452) kx_197_443 (by decide) (fun hc358 => ?_) (fun hc358 => ?_)
                · have hJ359 : Fr gS_197_j443 M347 M347 := Fr.refl
                  exact cP.wk (lS1 rfl (lS1 rfl (lS1 rfl lS0))) (jn407 (by omega) (by omega))
                · have hJ360 : Fr gS_197_j443 M347 M347 := Fr.refl
                  refine s_iload_n kx_197_446 rfl ?_
                  refine s_bipush (v := 6) kx_197_447 (by decide) ?_
                  refine s_icmp_ne (t := 518) kx_197_449 (by decide) (fun hc361 => ?_) (fun hc361 => ?_)
                  · refine s_aload_n kx_197_518 rfl ?_
                    refine s_iload_n kx_197_519 rfl ?_
                    refine s_iconst (v := 5) kx_197_520 (by decide) ?_
                    refine s_icmp_ne (t := 529) kx_197_521 (by decide) (fun hc362 => ?_) (fun hc362 => ?_)
                    · refine s_bipush (v := 41) kx_197_529 (by decide) ?_
                      refine s_callV2 (k := 63) (s1 := 2) (s2 := 0) (as := [(0, 41)]) (rest := []) kx_197_531 kp_197_283 (Or.inl rfl) rfl (tk_63 hT) ki_181 kcl_181 rfl rfl (by decide) (m_181 (d := d + 1) (c := 41) hT hI347) (kF (fun v363 v363p => ?_))
                      have hiss364 := ((isS_fr (c := 41) fr347 rfl rfl).trans (hz.2.iss (c := 41)))
                      refine s_if_ne (t := 546) kx_197_534 (by decide) (fun hc365 => ?_) (fun hc365 => ?_)
                      · replace v363p := v363p.resolve_right (by omega)
                        refine s_aload_n kx_197_546 rfl ?_
                        refine r_getI (k := 63) (f := 9) kx_197_547 kp_197_39 (tk_63 hT) kf_12_9 (fun _ => rfl) (rg_63_9 hI347) (fun v366 v366e v366a v366b => ?_)
                        refine s_if_le (t := 555) kx_197_550 (by decide) (fun hc367 => ?_) (fun hc367 => ?_)
                        · exact absurd h639 (by omega)
                        · refine s_iconst (v := 0) kx_197_553 (by decide) ?_
                          have hk368 : M347 63 4 = v345 := ((fr347 63 4 rfl).trans v345e)
                          have hk369 : M347 63 9 = v366 := v366e
                          exact s_iret kx_197_554 (Or.inr ⟨kq_197, by omega⟩) ⟨_, _, rfl, rfl, hI347, hFm347, ⟨by omega, by omega, (LXp.fr (LXp.fr hX fr2 rfl) fr347 rfl), (by omega), (by omega), ⟨(Or.inl (by omega)), (KP.fr (KP.fr (KP.refl (M := M)) fr2 (fun _ => rfl)) fr347 (fun _ => rfl))⟩, (StG.r (g_bo0 hK5 hA hC (by unfold pT; omega) (by omega)) rfl (owFl2 (k := 1) (x := owB s n p) (by omega) (by omega) (by decide) (by omega) (by unfold owU; rw [if_neg hK5]; omega)))⟩⟩
                      · replace v363p := v363p.resolve_left (by omega)
                        refine s_aload_n kx_197_537 rfl ?_
                        refine s_iconst (v := 1) kx_197_538 (by decide) ?_
                        refine s_aload_n kx_197_539 rfl ?_
                        refine r_getK (k := 63) (f := 4) kx_197_540 kp_197_23 (tk_63 hT) kf_12_4 (fun _ => rfl) ((fr347 63 4 rfl).trans v345e) ?_
                        refine s_callV2 (k := 63) (s1 := 3) (s2 := 0) (as := [(0, v345), (0, 1)]) (rest := []) kx_197_543 kp_197_263 (Or.inl rfl) rfl (tk_63 hT) ki_176 kcl_176 rfl rfl (by decide) (f_176 (d := d + 1) (kind := 1) (place := v345) hT hI347 (by omega)) (kV (fun M371 hI371 fr371 v370p => ?_))
                        have hFm371 := hFm347.call fr371 rfl
                        have hFj401371 := hFj401347.call fr371 rfl
                        have hFj443371 := hJ360.call fr371 rfl
                        have tr372 := (fr371 63 3 rfl)
                        have tr373 := (fr371 63 4 rfl)
                        have tr374 := (fr371 63 5 rfl)
                        have tr375 := (fr371 63 35 rfl)
                        have tr376 := (fr371 63 42 rfl)
                        have tr377 := (fr371 63 43 rfl)
                        have tr378 := (fr371 63 45 rfl)
                        have tr379 := (fr371 63 46 rfl)
                        have tr380 := rg_63_9 hI371
                        refine s_aload_n kx_197_546 rfl ?_
                        refine r_getI (k := 63) (f := 9) kx_197_547 kp_197_39 (tk_63 hT) kf_12_9 (fun _ => rfl) (rg_63_9 hI371) (fun v381 v381e v381a v381b => ?_)
                        refine s_if_le (t := 555) kx_197_550 (by decide) (fun hc382 => ?_) (fun hc382 => ?_)
                        · exact absurd h639 (by omega)
                        · refine s_iconst (v := 0) kx_197_553 (by decide) ?_
                          have hk383 : M371 63 4 = v345 := ((fr371 63 4 rfl).trans ((fr347 63 4 rfl).trans v345e))
                          have hk384 : M371 63 9 = v381 := v381e
                          exact s_iret kx_197_554 (Or.inr ⟨kq_197, by omega⟩) ⟨_, _, rfl, rfl, hI371, hFm371, ⟨by omega, by omega, (LXp.fr (LXp.fr (LXp.fr hX fr2 rfl) fr347 rfl) fr371 rfl), (by omega), (by omega), ⟨(Or.inl (by omega)), (KP.fr (KP.fr (KP.fr (KP.refl (M := M)) fr2 (fun _ => rfl)) fr347 (fun _ => rfl)) fr371 (fun _ => rfl))⟩, (StG.r (g_bo0 hK5 hA hC (by unfold pT; omega) (by omega)) rfl (owFl2 (k := 1) (x := owB s n p) (by omega) (by omega) (by decide) (by omega) (by unfold owU; rw [if_neg hK5]; omega)))⟩⟩
                    · refine s_bipush (v := 93) kx_197_524 (by decide) ?_
                      refine s_goto (t := 531) kx_197_526 (by decide) ?_
                      refine s_callV2 (k := 63) (s1 := 2) (s2 := 0) (as := [(0, 93)]) (rest := []) kx_197_531 kp_197_283 (Or.inl rfl) rfl (tk_63 hT) ki_181 kcl_181 rfl rfl (by decide) (m_181 (d := d + 1) (c := 93) hT hI347) (kF (fun v385 v385p => ?_))
                      have hiss386 := ((isS_fr (c := 93) fr347 rfl rfl).trans (hz.2.iss (c := 93)))
                      refine s_if_ne (t := 546) kx_197_534 (by decide) (fun hc387 => ?_) (fun hc387 => ?_)
                      · replace v385p := v385p.resolve_right (by omega)
                        refine s_aload_n kx_197_546 rfl ?_
                        refine r_getI (k := 63) (f := 9) kx_197_547 kp_197_39 (tk_63 hT) kf_12_9 (fun _ => rfl) (rg_63_9 hI347) (fun v388 v388e v388a v388b => ?_)
                        refine s_if_le (t := 555) kx_197_550 (by decide) (fun hc389 => ?_) (fun hc389 => ?_)
                        · exact absurd h639 (by omega)
                        · refine s_iconst (v := 0) kx_197_553 (by decide) ?_
                          have hk390 : M347 63 4 = v345 := ((fr347 63 4 rfl).trans v345e)
                          have hk391 : M347 63 9 = v388 := v388e
                          exact s_iret kx_197_554 (Or.inr ⟨kq_197, by omega⟩) ⟨_, _, rfl, rfl, hI347, hFm347, ⟨by omega, by omega, (LXp.fr (LXp.fr hX fr2 rfl) fr347 rfl), (by omega), (by omega), ⟨(Or.inl (by omega)), (KP.fr (KP.fr (KP.refl (M := M)) fr2 (fun _ => rfl)) fr347 (fun _ => rfl))⟩, (StG.r (g_bo0 hK5 hA hC (by unfold pT; omega) (by omega)) rfl (owFl2 (k := 1) (x := owB s n p) (by omega) (by omega) (by decide) (by omega) (by unfold owU; rw [if_neg hK5]; omega)))⟩⟩
                      · replace v385p := v385p.resolve_left (by omega)
                        refine s_aload_n kx_197_537 rfl ?_
                        refine s_iconst (v := 1) kx_197_538 (by decide) ?_
                        refine s_aload_n kx_197_539 rfl ?_
                        refine r_getK (k := 63) (f := 4) kx_197_540 kp_197_23 (tk_63 hT) kf_12_4 (fun _ => rfl) ((fr347 63 4 rfl).trans v345e) ?_
                        refine s_callV2 (k := 63) (s1 := 3) (s2 := 0) (as := [(0, v345), (0, 1)]) (rest := []) kx_197_543 kp_197_263 (Or.inl rfl) rfl (tk_63 hT) ki_176 kcl_176 rfl rfl (by decide) (f_176 (d := d + 1) (kind := 1) (place := v345) hT hI347 (by omega)) (kV (fun M393 hI393 fr393 v392p => ?_))
                        have hFm393 := hFm347.call fr393 rfl
                        have hFj401393 := hFj401347.call fr393 rfl
                        have hFj443393 := hJ360.call fr393 rfl
                        have tr394 := (fr393 63 3 rfl)
                        have tr395 := (fr393 63 4 rfl)
                        have tr396 := (fr393 63 5 rfl)
                        have tr397 := (fr393 63 35 rfl)
                        have tr398 := (fr393 63 42 rfl)
                        have tr399 := (fr393 63 43 rfl)
                        have tr400 := (fr393 63 45 rfl)
                        have tr401 := (fr393 63 46 rfl)
                        have tr402 := rg_63_9 hI393
                        refine s_aload_n kx_197_546 rfl ?_
                        refine r_getI (k := 63) (f := 9) kx_197_547 kp_197_39 (tk_63 hT) kf_12_9 (fun _ => rfl) (rg_63_9 hI393) (fun v403 v403e v403a v403b => ?_)
                        refine s_if_le (t := 555) kx_197_550 (by decide) (fun hc404 => ?_) (fun hc404 => ?_)
                        · exact absurd h639 (by omega)
                        · refine s_iconst (v := 0) kx_197_553 (by decide) ?_
                          have hk405 : M393 63 4 = v345 := ((fr393 63 4 rfl).trans ((fr347 63 4 rfl).trans v345e))
                          have hk406 : M393 63 9 = v403 := v403e
                          exact s_iret kx_197_554 (Or.inr ⟨kq_197, by omega⟩) ⟨_, _, rfl, rfl, hI393, hFm393, ⟨by omega, by omega, (LXp.fr (LXp.fr (LXp.fr hX fr2 rfl) fr347 rfl) fr393 rfl), (by omega), (by omega), ⟨(Or.inl (by omega)), (KP.fr (KP.fr (KP.fr (KP.refl (M := M)) fr2 (fun _ => rfl)) fr347 (fun _ => rfl)) fr393 (fun _ => rfl))⟩, (StG.r (g_bo0 hK5 hA hC (by unfold pT; omega) (by omega)) rfl (owFl2 (k := 1) (x := owB s n p) (by omega) (by omega) (by decide) (by omega) (by unfold owU; rw [if_neg hK5]; omega)))⟩⟩
                  · exact cP.wk (lS1 rfl (lS1 rfl (lS1 rfl lS0))) (jn407 (by omega) (by omega))
              · refine s_aload_n kx_197_427 rfl ?_
                refine r_getI (k := 63) (f := 9) kx_197_428 kp_197_39 (tk_63 hT) kf_12_9 (fun _ => rfl) (rg_63_9 hI347) (fun v432 v432e v432a v432b => ?_)
                refine s_if_ne (t := 439) kx_197_431 (by decide) (fun hc433 => ?_) (fun hc433 => ?_)
                · refine s_iconst (v := 0) kx_197_439 (by decide) ?_
                  have hk434 : M347 63 4 = v345 := ((fr347 63 4 rfl).trans v345e)
                  have hk435 : M347 63 9 = v432 := v432e
                  exact s_iret kx_197_440 (Or.inr ⟨kq_197, by omega⟩) ⟨_, _, rfl, rfl, hI347, hFm347, ⟨by omega, by omega, (LXp.fr (LXp.fr hX fr2 rfl) fr347 rfl), (by omega), (by omega), ⟨(Or.inl (by omega)), (KP.fr (KP.fr (KP.refl (M := M)) fr2 (fun _ => rfl)) fr347 (fun _ => rfl))⟩, (StG.r (g_bo0 hK5 hA hC (by unfold pT; omega) (by omega)) rfl (owFl2 (k := 1) (x := owB s n p) (by omega) (by omega) (by decide) (by omega) (by unfold owU; rw [if_neg hK5]; omega)))⟩⟩
                · exact absurd h639 (by omega)
        refine s_if_eq (t := 400) kx_197_286 (by decide) (fun hc220 => ?_) (fun hc220 => ?_)
        · have hJ221 : Fr gS_197_j286 M2 M2 := Fr.refl
          exact cP.wk (lS1 rfl (lS1 rfl (lS1 rfl (lS1 rfl lS0)))) (jn339 (fun g => by have g1 := g.1; first | omega | exact g.2 (bo_no (bo_na (by omega)) (by omega))))
        · have hJ222 : Fr gS_197_j286 M2 M2 := Fr.refl
          refine s_aload_n kx_197_289 rfl ?_
          refine s_ldc2_w kx_197_290 kp_197_327 ?_
          refine s_callV2 (k := 63) (s1 := 3) (s2 := 0) (as := [(1, 6385252)]) (rest := []) kx_197_293 kp_197_361 (Or.inl rfl) rfl (tk_63 hT) ki_182 kcl_182 rfl rfl (by decide) (f_182 (d := d + 1) (w := 6385252) hT hI2 hz.2 hK5 (w5 := 48365568) n58_and (Or.inr (by decide)) (by omega)) (kF (fun v223 v223p => ?_))
          have jn229 : (1 ≤ M 63 3) → (owBo s n p = 20 ∨ owBo s n p = 21) → cP k_P xs Ln (d + 2) 197 309 [(0, rf 63), (1, (0, (v14 - 1)))] [] (T, M2) (qW T M gS_197_m 0 (fun v M1 => 0 ≤ v ∧ v ≤ 1 ∧ (LXp M1 ∧ M 63 4 ≤ M1 63 4 ∧ M 63 9 ≤ M1 63 9 ∧ (GOd M M1 c a v ∧ KP M M1) ∧ (StG M1 s n (pSt s n (1, (k_, ph, bg, pr, os_) :: fs_, cs, p)) v)))) := by
            intro a230 a231
            have hbo := a231
            refine s_aload_n kx_197_309 rfl ?_
            refine r_getR (k := 63) (f := 38) (k2 := 86) kx_197_310 kp_197_127 (tk_63 hT) kf_12_38 (by decide) (rq_63_38 hI2) ?_
            refine s_iload_n kx_197_313 rfl ?_
            refine r_aldK (k := 86) kx_197_314 (tk_86 hT) ⟨by omega, by omega⟩ v17e ?_
            refine s_if_ne (t := 327) kx_197_315 (by decide) (fun hc232 => ?_) (fun hc232 => ?_)
            · refine s_aload_n kx_197_327 rfl ?_
              refine r_getK (k := 63) (f := 9) kx_197_328 kp_197_39 (tk_63 hT) kf_12_9 (fun _ => rfl) v12e ?_
              refine s_if_le (t := 336) kx_197_331 (by decide) (fun hc233 => ?_) (fun hc233 => absurd hc233 (by omega))
              refine s_aload_n kx_197_336 rfl ?_
              refine s_ldc2_w kx_197_337 kp_197_327 ?_
              refine s_callV2 (k := 63) (s1 := 3) (s2 := 0) (as := [(1, 6385252)]) (rest := []) kx_197_340 kp_197_361 (Or.inl rfl) rfl (tk_63 hT) ki_182 kcl_182 rfl rfl (by decide) (f_182 (d := d + 1) (w := 6385252) hT hI2 hz.2 hK5 (w5 := 48365568) n58_and (Or.inr (by decide)) (by omega)) (kF (fun v234 v234p => ?_))
              have hnd : (v234 = 1 ∧ owBo s n p = 20) ∨ (v234 = 0 ∧ owBo s n p = 21) := by rcases v234p with z | z; exact Or.inl ⟨z.1, bo_and z.2.2⟩; exact Or.inr ⟨z.1, by have hna := bo_na z.2; omega⟩
              refine s_istore kx_197_343 km_197_4 rfl ?_
              refine s_aload_n kx_197_345 rfl ?_
              refine s_iload kx_197_346 rfl ?_
              have jn239 : ∀ (y238 : Int), (1 ≤ y238) → (y238 ≤ 2) → ((y238 = 2 ∧ v234 ≠ 0) ∨ (y238 = 1 ∧ v234 = 0)) → cP k_P xs Ln (d + 2) 197 356 [(0, rf 63), (1, (0, (v14 - 1))), (4, (0, v234))] [(0, y238), rf 63] (T, M2) (qW T M gS_197_m 0 (fun v M1 => 0 ≤ v ∧ v ≤ 1 ∧ (LXp M1 ∧ M 63 4 ≤ M1 63 4 ∧ M 63 9 ≤ M1 63 9 ∧ (GOd M M1 c a v ∧ KP M M1) ∧ (StG M1 s n (pSt s n (1, (k_, ph, bg, pr, os_) :: fs_, cs, p)) v)))) := by
                intro y238 a240 a241 a242
                refine s_callV2 (k := 63) (s1 := 2) (s2 := 0) (as := [(0, y238)]) (rest := []) kx_197_356 kp_197_370 (Or.inl rfl) rfl (tk_63 hT) ki_191 kcl_191 rfl rfl (by decide) (f_191 (d := d) (least := y238) hT hI2 (PI.fr hP fr2 rfl) (QJ.fr hQ fr2 rfl) (by omega) (by omega) (by omega)) (kV (fun M244 hI244 fr244 v243p => ?_))
                have hFm244 := hFm2.call fr244 rfl
                have hFj286244 := hJ222.call fr244 rfl
                have tr245 := (fr244 63 3 rfl)
                have tr246 := (fr244 63 4 rfl)
                have tr247 := (fr244 63 5 rfl)
                have tr248 := (fr244 63 9 rfl)
                have tr249 := (fr244 63 42 rfl)
                have tr250 := (fr244 63 10 rfl)
                have tr251 := (fr244 63 46 rfl)
                have tr252 := rg_63_9 hI244
                have hd253 := PI.deep v243p.1
                have hs254 := PI.small v243p.1 (rg_63_43 hI244).2 (by decide)
                have hs254a := hs254.1
                have hs254b := hs254.2.1
                have hs254c := rg_63_45 hI244
                have hK255 := KP.trans (KP.fr (KP.refl (M := M)) fr2 (fun _ => rfl)) (fr2 63 36 rfl) v243p.2.1
                refine s_aload_n kx_197_359 rfl ?_
                refine s_iload kx_197_360 rfl ?_
                have jn260 : ∀ (y259 : Int), (20 ≤ y259) → (y259 ≤ 21) → ((y259 = 20 ∧ v234 ≠ 0) ∨ (y259 = 21 ∧ v234 = 0)) → (y259 = owBo s n p) → cP k_P xs Ln (d + 2) 197 372 [(0, rf 63), (1, (0, (v14 - 1)))] [(0, y259), rf 63] (T, M244) (qW T M gS_197_m 0 (fun v M1 => 0 ≤ v ∧ v ≤ 1 ∧ (LXp M1 ∧ M 63 4 ≤ M1 63 4 ∧ M 63 9 ≤ M1 63 9 ∧ (GOd M M1 c a v ∧ KP M M1) ∧ (StG M1 s n (pSt s n (1, (k_, ph, bg, pr, os_) :: fs_, cs, p)) v)))) := by
                  intro y259 a261 a262 a263 a264
                  refine s_callV2 (k := 63) (s1 := 2) (s2 := 0) (as := [(0, y259)]) (rest := []) kx_197_372 kp_197_364 (Or.inl rfl) rfl (tk_63 hT) ki_192 kcl_192 rfl rfl (by decide) (m_192 (d := d + 1) (op := y259) hT hI244 (by omega) (by omega)) (kV (fun M266 hI266 fr266 v265p => ?_))
                  have hFm266 := hFm244.call fr266 rfl
                  have hFj286266 := hFj286244.call fr266 rfl
                  have tr267 := (fr266 63 3 rfl)
                  have tr268 := (fr266 63 4 rfl)
                  have tr269 := (fr266 63 5 rfl)
                  have tr270 := (fr266 63 9 rfl)
                  have tr271 := (fr266 63 35 rfl)
                  have tr272 := (fr266 63 42 rfl)
                  have tr273 := (fr266 63 43 rfl)
                  have tr274 := (fr266 63 10 rfl)
                  have tr275 := (fr266 63 46 rfl)
                  have tr276 := rg_63_9 hI266
                  have hqj277 := QJ.hold (e' := 0) v243p.2.2 fr266 v265p.1 v265p.2.1 v265p.2.2 (by rw [if_neg (by omega)]; omega)
                  have hP278 := PI.holdL v243p.1 (B0.fr (B0.fr hB fr2 rfl (fun _ => rfl)) fr244 rfl (fun _ => rfl)) (by omega) fr266 v265p.1 v265p.2.1 v265p.2.2
                  refine s_aload_n kx_197_375 rfl ?_
                  refine r_getR (k := 63) (f := 38) (k2 := 86) kx_197_376 kp_197_127 (tk_63 hT) kf_12_38 (by decide) (rq_63_38 hI266) ?_
                  refine s_iload_n kx_197_379 rfl ?_
                  refine s_iconst (v := 0) kx_197_380 (by decide) ?_
                  refine r_ast (k := 86) kx_197_381 (tk_86 hT) ⟨by omega, by omega⟩ hI266 (ru_86 (by omega) (by omega)) (fun M279 hI279 u279 => ?_)
                  have hFm279 := hFm266.up u279 rfl
                  have hFj286279 := hFj286266.up u279 rfl
                  have tr280 := (u279.2 63 3 (by omega))
                  have tr281 := (u279.2 63 4 (by omega))
                  have tr282 := (u279.2 63 5 (by omega))
                  have tr283 := (u279.2 63 9 (by omega))
                  have tr284 := (u279.2 63 35 (by omega))
                  have tr285 := (u279.2 63 42 (by omega))
                  have tr286 := (u279.2 63 43 (by omega))
                  have tr287 := (u279.2 63 45 (by omega))
                  have tr288 := (u279.2 63 10 (by omega))
                  have tr289 := (u279.2 63 46 (by omega))
                  refine s_aload_n kx_197_382 rfl ?_
                  refine r_getR (k := 63) (f := 39) (k2 := 87) kx_197_383 kp_197_130 (tk_63 hT) kf_12_39 (by decide) (rq_63_39 hI279) ?_
                  refine s_iload_n kx_197_386 rfl ?_
                  refine s_iconst (v := 1) kx_197_387 (by decide) ?_
                  refine r_bast (k := 87) kx_197_388 (tk_87 hT) ⟨by omega, by omega⟩ (by omega) hI279 (ru_87 (by omega) (by omega)) (fun M290 hI290 u290 => ?_)
                  have hFm290 := hFm279.up u290 rfl
                  have hFj286290 := hFj286279.up u290 rfl
                  have tr291 := (u290.2 63 3 (by omega))
                  have tr292 := (u290.2 63 4 (by omega))
                  have tr293 := (u290.2 63 5 (by omega))
                  have tr294 := (u290.2 63 9 (by omega))
                  have tr295 := (u290.2 63 35 (by omega))
                  have tr296 := (u290.2 63 42 (by omega))
                  have tr297 := (u290.2 63 43 (by omega))
                  have tr298 := (u290.2 63 45 (by omega))
                  have tr299 := (u290.2 63 10 (by omega))
                  have tr300 := (u290.2 63 46 (by omega))
                  refine s_aload_n kx_197_389 rfl ?_
                  refine s_callV2 (k := 63) (s1 := 1) (s2 := 0) (as := []) (rest := []) kx_197_390 kp_197_286 (Or.inl rfl) rfl (tk_63 hT) ki_180 kcl_180 rfl rfl (by decide) (f_180 (d := d) hT hI290 (LyA.up (LyA.up (LyA.fr (LyA.fr hz.2 fr244 rfl) fr266 rfl) u279 ⟨by decide, Or.inl (by decide)⟩) u290 ⟨by decide, Or.inl (by decide)⟩).1 (LyA.up (LyA.up (LyA.fr (LyA.fr hz.2 fr244 rfl) fr266 rfl) u279 ⟨by decide, Or.inl (by decide)⟩) u290 ⟨by decide, Or.inl (by decide)⟩).2.1 (LyA.up (LyA.up (LyA.fr (LyA.fr hz.2 fr244 rfl) fr266 rfl) u279 ⟨by decide, Or.inl (by decide)⟩) u290 ⟨by decide, Or.inl (by decide)⟩).2.2.2.2.2.1 (owE_i2 ⟨(LyA.up (LyA.up (LyA.fr (LyA.fr hz.2 fr244 rfl) fr266 rfl) u279 ⟨by decide, Or.inl (by decide)⟩) u290 ⟨by decide, Or.inl (by decide)⟩).2.2.1, (LyA.up (LyA.up (LyA.fr (LyA.fr hz.2 fr244 rfl) fr266 rfl) u279 ⟨by decide, Or.inl (by decide)⟩) u290 ⟨by decide, Or.inl (by decide)⟩).2.2.2.1⟩).1 (owE_i2 ⟨(LyA.up (LyA.up (LyA.fr (LyA.fr hz.2 fr244 rfl) fr266 rfl) u279 ⟨by decide, Or.inl (by decide)⟩) u290 ⟨by decide, Or.inl (by decide)⟩).2.2.1, (LyA.up (LyA.up (LyA.fr (LyA.fr hz.2 fr244 rfl) fr266 rfl) u279 ⟨by decide, Or.inl (by decide)⟩) u290 ⟨by decide, Or.inl (by decide)⟩).2.2.2.1⟩).2 (LyA.up (LyA.up (LyA.fr (LyA.fr hz.2 fr244 rfl) fr266 rfl) u279 ⟨by decide, Or.inl (by decide)⟩) u290 ⟨by decide, Or.inl (by decide)⟩).2.2.2.2.2.2.2.2.2.2.2.2) (kV (fun M302 hI302 fr302 v301p => ?_))
                  have hFm302 := hFm290.call fr302 rfl
                  have hFj286302 := hFj286290.call fr302 rfl
                  have tr303 := (fr302 63 9 rfl)
                  have tr304 := (fr302 63 35 rfl)
                  have tr305 := (fr302 63 42 rfl)
                  have tr306 := (fr302 63 43 rfl)
                  have tr307 := (fr302 63 45 rfl)
                  have tr308 := (fr302 63 10 rfl)
                  have tr309 := (fr302 63 46 rfl)
                  have tr310 := rg_63_9 hI302
                  refine s_aload_n kx_197_393 rfl ?_
                  refine s_iconst (v := 0) kx_197_394 (by decide) ?_
                  refine r_put (k := 63) (f := 46) kx_197_395 kp_197_152 (tk_63 hT) kf_12_46 rfl (by decide) (by decide) hI302 (ru_63_46 (by omega) (by omega)) (fun M311 hI311 u311 => ?_)
                  have hFm311 := hFm302.up u311 rfl
                  have hFj286311 := hFj286302.up u311 rfl
                  have tr312 := (u311.2 63 3 (by omega))
                  have tr313 := (u311.2 63 4 (by omega))
                  have tr314 := (u311.2 63 5 (by omega))
                  have tr315 := (u311.2 63 9 (by omega))
                  have tr316 := (u311.2 63 35 (by omega))
                  have tr317 := (u311.2 63 42 (by omega))
                  have tr318 := (u311.2 63 43 (by omega))
                  have tr319 := (u311.2 63 45 (by omega))
                  have tr320 := (u311.2 63 10 (by omega))
                  have tr321 := u311.1
                  refine s_iconst (v := 1) kx_197_398 (by decide) ?_
                  have hk322 : M311 63 9 = v12 := ((u311.2 63 9 (by omega)).trans ((fr302 63 9 rfl).trans ((u290.2 63 9 (by omega)).trans ((u279.2 63 9 (by omega)).trans ((fr266 63 9 rfl).trans ((fr244 63 9 rfl).trans v12e))))))
                  exact s_iret kx_197_399 (Or.inr ⟨kq_197, by omega⟩) ⟨_, _, rfl, rfl, hI311, hFm311, ⟨by omega, by omega, (LXp.up (show LXp M302 from v301p.2.2) u311 (by decide)), (by omega), (by omega), ⟨(Or.inr (Or.inr ⟨rfl, by omega, Or.inl ⟨u311.1, PI.to7 (PI.fr (PI.fr (PI.begins1 (PI.phase hP278 (Or.inr (by omega)) (by omega) u279) (by omega) (by omega) u290) fr302 rfl) (Up.fr u311) rfl) (by omega)⟩⟩)), (KP.up (KP.fr (KP.up (KP.up (KP.fr hK255 fr266 (fun _ => rfl)) u279 (by decide)) u290 (by decide)) fr302 (fun _ => rfl)) u311 (by decide))⟩, (StG.l (g_bo hK5 hA hC (by unfold pT; omega) (by omega) (by omega) (by omega)) rfl u311.1 (QJ.up (QJ.fr (QJ.bg1 (QJ.phs hqj277 (by omega) u279) (by omega) u290) fr302 rfl) u311 (by decide)) (by omega) (LyA.up v301p.1 u311 (by decide)))⟩⟩
                refine s_if_eq (t := 370) kx_197_362 (by decide) (fun hc256 => ?_) (fun hc256 => ?_)
                · have hJ257 : Fr gS_197_j362 M244 M244 := Fr.refl
                  refine s_bipush (v := 21) kx_197_370 (by decide) ?_
                  exact cP.wk (lS1 rfl (lS1 rfl lS0)) (jn260 21 (by omega) (by omega) (by omega) (by omega))
                · have hJ258 : Fr gS_197_j362 M244 M244 := Fr.refl
                  refine s_bipush (v := 20) kx_197_365 (by decide) ?_
                  refine s_goto (t := 372) kx_197_367 (by decide) ?_
                  exact cP.wk (lS1 rfl (lS1 rfl lS0)) (jn260 20 (by omega) (by omega) (by omega) (by omega))
              refine s_if_eq (t := 355) kx_197_348 (by decide) (fun hc235 => ?_) (fun hc235 => ?_)
              · have hJ236 : Fr gS_197_j348 M2 M2 := Fr.refl
                replace v234p := v234p.resolve_left (by omega)
                refine s_iconst (v := 1) kx_197_355 (by decide) ?_
                exact cP.wk (lS1 rfl (lS1 rfl (lS1 rfl lS0))) (jn239 1 (by omega) (by omega) (by omega))
              · have hJ237 : Fr gS_197_j348 M2 M2 := Fr.refl
                replace v234p := v234p.resolve_right (by omega)
                refine s_iconst (v := 2) kx_197_351 (by decide) ?_
                refine s_goto (t := 356) kx_197_352 (by decide) ?_
                exact cP.wk (lS1 rfl (lS1 rfl (lS1 rfl lS0))) (jn239 2 (by omega) (by omega) (by omega))
            · refine s_aload_n kx_197_318 rfl ?_
              refine s_iconst (v := 1) kx_197_319 (by decide) ?_
              refine s_aload_n kx_197_320 rfl ?_
              refine r_getI (k := 63) (f := 4) kx_197_321 kp_197_23 (tk_63 hT) kf_12_4 (fun _ => rfl) (rg_63_4 hI2) (fun v323 v323e v323a v323b => ?_)
              have v323z : M 63 4 = v323 := ((fr2 63 4 rfl)).symm.trans v323e
              refine s_callV2 (k := 63) (s1 := 3) (s2 := 0) (as := [(0, v323), (0, 1)]) (rest := []) kx_197_324 kp_197_263 (Or.inl rfl) rfl (tk_63 hT) ki_176 kcl_176 rfl rfl (by decide) (f_176 (d := d + 1) (kind := 1) (place := v323) hT hI2 (by omega)) (kV (fun M325 hI325 fr325 v324p => ?_))
              have hFm325 := hFm2.call fr325 rfl
              have hFj286325 := hJ222.call fr325 rfl
              have tr326 := (fr325 63 3 rfl)
              have tr327 := (fr325 63 4 rfl)
              have tr328 := (fr325 63 5 rfl)
              have tr329 := (fr325 63 35 rfl)
              have tr330 := (fr325 63 42 rfl)
              have tr331 := (fr325 63 43 rfl)
              have tr332 := (fr325 63 45 rfl)
              have tr333 := (fr325 63 46 rfl)
              have tr334 := rg_63_9 hI325
              refine s_aload_n kx_197_327 rfl ?_
              refine r_getI (k := 63) (f := 9) kx_197_328 kp_197_39 (tk_63 hT) kf_12_9 (fun _ => rfl) (rg_63_9 hI325) (fun v335 v335e v335a v335b => ?_)
              refine s_if_le (t := 336) kx_197_331 (by decide) (fun hc336 => ?_) (fun hc336 => ?_)
              · exact absurd h639 (by omega)
              · refine s_iconst (v := 0) kx_197_334 (by decide) ?_
                have hk337 : M325 63 4 = v323 := ((fr325 63 4 rfl).trans v323e)
                have hk338 : M325 63 9 = v335 := v335e
                exact s_iret kx_197_335 (Or.inr ⟨kq_197, by omega⟩) ⟨_, _, rfl, rfl, hI325, hFm325, ⟨by omega, by omega, (LXp.fr (LXp.fr hX fr2 rfl) fr325 rfl), (by omega), (by omega), ⟨(Or.inl (by omega)), (KP.fr (KP.fr (KP.refl (M := M)) fr2 (fun _ => rfl)) fr325 (fun _ => rfl))⟩, (StG.r (g_bo0 hK5 hA hC (by unfold pT; omega) (by omega)) rfl (owFl2 (k := 1) (x := owB s n p) (by omega) (by omega) (by decide) (by omega) (by unfold owU; rw [if_neg hK5]; omega)))⟩⟩
          refine s_if_ne (t := 309) kx_197_296 (by decide) (fun hc224 => ?_) (fun hc224 => ?_)
          · have hJ225 : Fr gS_197_j296 M2 M2 := Fr.refl
            replace v223p := v223p.resolve_right (by omega)
            exact cP.wk (lS1 rfl (lS1 rfl lS0)) (jn229 (by omega) (by first | exact Or.inl (bo_and (by omega)) | exact Or.inr (bo_or (by omega))))
          · have hJ226 : Fr gS_197_j296 M2 M2 := Fr.refl
            replace v223p := v223p.resolve_left (by omega)
            refine s_aload_n kx_197_299 rfl ?_
            refine s_ldc2_w kx_197_300 kp_197_325 ?_
            refine s_callV2 (k := 63) (s1 := 3) (s2 := 0) (as := [(1, 28530)]) (rest := []) kx_197_303 kp_197_361 (Or.inl rfl) rfl (tk_63 hT) ki_182 kcl_182 rfl rfl (by decide) (f_182 (d := d + 1) (w := 28530) hT hI2 hz.2 hK5 (w5 := 522190848) n58_or (Or.inr (by decide)) (by omega)) (kF (fun v227 v227p => ?_))
            refine s_if_eq (t := 400) kx_197_306 (by decide) (fun hc228 => ?_) (fun hc228 => ?_)
            · replace v227p := v227p.resolve_left (by omega)
              exact cP.wk (lS1 rfl (lS1 rfl (lS1 rfl (lS1 rfl lS0)))) (jn339 (fun g => by have g1 := g.1; first | omega | exact g.2 (bo_no (bo_na (by omega)) (by omega))))
            · replace v227p := v227p.resolve_right (by omega)
              exact cP.wk (lS1 rfl (lS1 rfl lS0)) (jn229 (by omega) (by first | exact Or.inl (bo_and (by omega)) | exact Or.inr (bo_or (by omega))))
      refine s_if_eq (t := 285) kx_197_189 (by decide) (fun hc124 => ?_) (fun hc124 => ?_)
      · have hJ125 : Fr gS_197_j189 M2 M2 := Fr.refl
        exact cP.wk (lS1 rfl (lS1 rfl (lS1 rfl (lS1 rfl lS0)))) (jn218 (fun g => by have g1 := g.1.1; have g2 := g.1.2; first | omega | exact g.2 (co_n (by omega) (by omega) (by omega))))
      · have hJ126 : Fr gS_197_j189 M2 M2 := Fr.refl
        refine s_aload_n kx_197_192 rfl ?_
        refine r_getR (k := 63) (f := 38) (k2 := 86) kx_197_193 kp_197_127 (tk_63 hT) kf_12_38 (by decide) (rq_63_38 hI2) ?_
        refine s_iload_n kx_197_196 rfl ?_
        refine r_aldK (k := 86) kx_197_197 (tk_86 hT) ⟨by omega, by omega⟩ v17e ?_
        refine s_if_ne (t := 285) kx_197_198 (by decide) (fun hc127 => ?_) (fun hc127 => ?_)
        · exact cP.wk (lS1 rfl (lS1 rfl (lS1 rfl (lS1 rfl lS0)))) (jn218 (fun g => by have g1 := g.1.1; have g2 := g.1.2; first | omega | exact g.2 (co_n (by omega) (by omega) (by omega))))
        · have hph128 : M2 86 ((v14 - 1)).toNat = 0 := by omega
          refine s_aload_n kx_197_201 rfl ?_
          refine s_bipush (v := 60) kx_197_202 (by decide) ?_
          refine s_callV2 (k := 63) (s1 := 2) (s2 := 0) (as := [(0, 60)]) (rest := []) kx_197_204 kp_197_283 (Or.inl rfl) rfl (tk_63 hT) ki_181 kcl_181 rfl rfl (by decide) (m_181 (d := d + 1) (c := 60) hT hI2) (kF (fun v129 v129p => ?_))
          have hiss130 := (hz.2.iss (c := 60))
          have jn140 : (owCo s n p ≠ 0) → (1 ≤ M 63 3) → cP k_P xs Ln (d + 2) 197 228 [(0, rf 63), (1, (0, (v14 - 1)))] [] (T, M2) (qW T M gS_197_m 0 (fun v M1 => 0 ≤ v ∧ v ≤ 1 ∧ (LXp M1 ∧ M 63 4 ≤ M1 63 4 ∧ M 63 9 ≤ M1 63 9 ∧ (GOd M M1 c a v ∧ KP M M1) ∧ (StG M1 s n (pSt s n (1, (k_, ph, bg, pr, os_) :: fs_, cs, p)) v)))) := by
            clear hiss130 v129p
            intro a141 a142
            refine s_aload_n kx_197_228 rfl ?_
            refine s_iconst (v := 5) kx_197_229 (by decide) ?_
            refine s_callV2 (k := 63) (s1 := 2) (s2 := 0) (as := [(0, 5)]) (rest := []) kx_197_230 kp_197_370 (Or.inl rfl) rfl (tk_63 hT) ki_191 kcl_191 rfl rfl (by decide) (f_191 (d := d) (least := 5) hT hI2 (PI.fr hP fr2 rfl) (QJ.fr hQ fr2 rfl) (by omega) (by omega) (by omega)) (kV (fun M144 hI144 fr144 v143p => ?_))
            have hFm144 := hFm2.call fr144 rfl
            have hFj189144 := hJ126.call fr144 rfl
            have tr145 := (fr144 63 3 rfl)
            have tr146 := (fr144 63 4 rfl)
            have tr147 := (fr144 63 5 rfl)
            have tr148 := (fr144 63 9 rfl)
            have tr149 := (fr144 63 42 rfl)
            have tr150 := (fr144 63 10 rfl)
            have tr151 := (fr144 63 46 rfl)
            have tr152 := rg_63_9 hI144
            have hd153 := PI.deep v143p.1
            have hs154 := PI.small v143p.1 (rg_63_43 hI144).2 (by decide)
            have hs154a := hs154.1
            have hs154b := hs154.2.1
            have hs154c := rg_63_45 hI144
            have hK155 := KP.trans (KP.fr (KP.refl (M := M)) fr2 (fun _ => rfl)) (fr2 63 36 rfl) v143p.2.1
            refine s_aload_n kx_197_233 rfl ?_
            refine s_aload_n kx_197_234 rfl ?_
            refine s_bipush (v := 60) kx_197_235 (by decide) ?_
            refine s_callV2 (k := 63) (s1 := 2) (s2 := 1) (as := [(0, 60)]) (rest := [rf 63]) kx_197_237 kp_197_283 (Or.inl rfl) rfl (tk_63 hT) ki_181 kcl_181 rfl rfl (by decide) (m_181 (d := d + 1) (c := 60) hT hI144) (kF (fun v156 v156p => ?_))
            have hiss157 := ((LyA.fr hz.2 fr144 rfl).iss (c := 60))
            have jn165 : ∀ (y164 : Int), (17 ≤ y164) → (y164 ≤ 19) → (17 ≤ y164 ∧ y164 ≤ 19) → (y164 = owCo s n p) → cP k_P xs Ln (d + 2) 197 264 [(0, rf 63), (1, (0, (v14 - 1)))] [(0, y164), rf 63] (T, M144) (qW T M gS_197_m 0 (fun v M1 => 0 ≤ v ∧ v ≤ 1 ∧ (LXp M1 ∧ M 63 4 ≤ M1 63 4 ∧ M 63 9 ≤ M1 63 9 ∧ (GOd M M1 c a v ∧ KP M M1) ∧ (StG M1 s n (pSt s n (1, (k_, ph, bg, pr, os_) :: fs_, cs, p)) v)))) := by
              clear hiss157 v156p
              intro y164 a166 a167 a168 a169
              refine s_callV2 (k := 63) (s1 := 2) (s2 := 0) (as := [(0, y164)]) (rest := []) kx_197_264 kp_197_364 (Or.inl rfl) rfl (tk_63 hT) ki_192 kcl_192 rfl rfl (by decide) (m_192 (d := d + 1) (op := y164) hT hI144 (by omega) (by omega)) (kV (fun M171 hI171 fr171 v170p => ?_))
              have hFm171 := hFm144.call fr171 rfl
              have hFj189171 := hFj189144.call fr171 rfl
              have tr172 := (fr171 63 3 rfl)
              have tr173 := (fr171 63 4 rfl)
              have tr174 := (fr171 63 5 rfl)
              have tr175 := (fr171 63 9 rfl)
              have tr176 := (fr171 63 35 rfl)
              have tr177 := (fr171 63 42 rfl)
              have tr178 := (fr171 63 43 rfl)
              have tr179 := (fr171 63 10 rfl)
              have tr180 := (fr171 63 46 rfl)
              have tr181 := rg_63_9 hI171
              have hqj182 := QJ.hold (e' := 0) v143p.2.2 fr171 v170p.1 v170p.2.1 v170p.2.2 (by rw [if_neg (by omega)]; omega)
              refine s_aload_n kx_197_267 rfl ?_
              refine r_getR (k := 63) (f := 38) (k2 := 86) kx_197_268 kp_197_127 (tk_63 hT) kf_12_38 (by decide) (rq_63_38 hI171) ?_
              refine s_iload_n kx_197_271 rfl ?_
              refine s_iconst (v := 1) kx_197_272 (by decide) ?_
              refine r_ast (k := 86) kx_197_273 (tk_86 hT) ⟨by omega, by omega⟩ hI171 (ru_86 (by omega) (by omega)) (fun M184 hI184 u184 => ?_)
              have hFm184 := hFm171.up u184 rfl
              have hFj189184 := hFj189171.up u184 rfl
              have tr185 := (u184.2 63 3 (by omega))
              have tr186 := (u184.2 63 4 (by omega))
              have tr187 := (u184.2 63 5 (by omega))
              have tr188 := (u184.2 63 9 (by omega))
              have tr189 := (u184.2 63 35 (by omega))
              have tr190 := (u184.2 63 42 (by omega))
              have tr191 := (u184.2 63 43 (by omega))
              have tr192 := (u184.2 63 45 (by omega))
              have tr193 := (u184.2 63 10 (by omega))
              have tr194 := (u184.2 63 46 (by omega))
              have hP195 := PI.holdC v143p.1 (f := (v14 - 1)) (by omega) ((fr144 86 _ rfl).trans hph128) (B0.fr (B0.fr hB fr2 rfl (fun _ => rfl)) fr144 rfl (fun _ => rfl)) (by omega) fr171 v170p.1 v170p.2.1 v170p.2.2 u184
              refine s_aload_n kx_197_274 rfl ?_
              refine s_callV2 (k := 63) (s1 := 1) (s2 := 0) (as := []) (rest := []) kx_197_275 kp_197_286 (Or.inl rfl) rfl (tk_63 hT) ki_180 kcl_180 rfl rfl (by decide) (f_180 (d := d) hT hI184 (LyA.up (LyA.fr (LyA.fr hz.2 fr144 rfl) fr171 rfl) u184 ⟨by decide, Or.inl (by decide)⟩).1 (LyA.up (LyA.fr (LyA.fr hz.2 fr144 rfl) fr171 rfl) u184 ⟨by decide, Or.inl (by decide)⟩).2.1 (LyA.up (LyA.fr (LyA.fr hz.2 fr144 rfl) fr171 rfl) u184 ⟨by decide, Or.inl (by decide)⟩).2.2.2.2.2.1 (owE_i2 ⟨(LyA.up (LyA.fr (LyA.fr hz.2 fr144 rfl) fr171 rfl) u184 ⟨by decide, Or.inl (by decide)⟩).2.2.1, (LyA.up (LyA.fr (LyA.fr hz.2 fr144 rfl) fr171 rfl) u184 ⟨by decide, Or.inl (by decide)⟩).2.2.2.1⟩).1 (owE_i2 ⟨(LyA.up (LyA.fr (LyA.fr hz.2 fr144 rfl) fr171 rfl) u184 ⟨by decide, Or.inl (by decide)⟩).2.2.1, (LyA.up (LyA.fr (LyA.fr hz.2 fr144 rfl) fr171 rfl) u184 ⟨by decide, Or.inl (by decide)⟩).2.2.2.1⟩).2 (LyA.up (LyA.fr (LyA.fr hz.2 fr144 rfl) fr171 rfl) u184 ⟨by decide, Or.inl (by decide)⟩).2.2.2.2.2.2.2.2.2.2.2.2) (kV (fun M197 hI197 fr197 v196p => ?_))
              have hFm197 := hFm184.call fr197 rfl
              have hFj189197 := hFj189184.call fr197 rfl
              have tr198 := (fr197 63 9 rfl)
              have tr199 := (fr197 63 35 rfl)
              have tr200 := (fr197 63 42 rfl)
              have tr201 := (fr197 63 43 rfl)
              have tr202 := (fr197 63 45 rfl)
              have tr203 := (fr197 63 10 rfl)
              have tr204 := (fr197 63 46 rfl)
              have tr205 := rg_63_9 hI197
              refine s_aload_n kx_197_278 rfl ?_
              refine s_iconst (v := 0) kx_197_279 (by decide) ?_
              refine r_put (k := 63) (f := 46) kx_197_280 kp_197_152 (tk_63 hT) kf_12_46 rfl (by decide) (by decide) hI197 (ru_63_46 (by omega) (by omega)) (fun M206 hI206 u206 => ?_)
              have hFm206 := hFm197.up u206 rfl
              have hFj189206 := hFj189197.up u206 rfl
              have tr207 := (u206.2 63 3 (by omega))
              have tr208 := (u206.2 63 4 (by omega))
              have tr209 := (u206.2 63 5 (by omega))
              have tr210 := (u206.2 63 9 (by omega))
              have tr211 := (u206.2 63 35 (by omega))
              have tr212 := (u206.2 63 42 (by omega))
              have tr213 := (u206.2 63 43 (by omega))
              have tr214 := (u206.2 63 45 (by omega))
              have tr215 := (u206.2 63 10 (by omega))
              have tr216 := u206.1
              refine s_iconst (v := 1) kx_197_283 (by decide) ?_
              have hk217 : M206 63 9 = v12 := ((u206.2 63 9 (by omega)).trans ((fr197 63 9 rfl).trans ((u184.2 63 9 (by omega)).trans ((fr171 63 9 rfl).trans ((fr144 63 9 rfl).trans v12e)))))
              exact s_iret kx_197_284 (Or.inr ⟨kq_197, by omega⟩) ⟨_, _, rfl, rfl, hI206, hFm206, ⟨by omega, by omega, (LXp.up (show LXp M197 from v196p.2.2) u206 (by decide)), (by omega), (by omega), ⟨(Or.inr (Or.inr ⟨rfl, by omega, Or.inl ⟨u206.1, PI.to7 (PI.fr (PI.fr hP195 fr197 rfl) (Up.fr u206) rfl) (by omega)⟩⟩)), (KP.up (KP.fr (KP.up (KP.fr hK155 fr171 (fun _ => rfl)) u184 (by decide)) fr197 (fun _ => rfl)) u206 (by decide))⟩, (StG.l (g_co hK5 hA (by unfold pT; omega) (by omega) (by omega) (by omega)) rfl u206.1 (QJ.up (QJ.fr (QJ.phs hqj182 (by omega) u184) fr197 rfl) u206 (by decide)) (by omega) (LyA.up v196p.1 u206 (by decide)))⟩⟩
            refine s_if_eq (t := 248) kx_197_240 (by decide) (fun hc158 => ?_) (fun hc158 => ?_)
            · have hJ159 : Fr gS_197_j240 M144 M144 := Fr.refl
              replace v156p := v156p.resolve_left (by omega)
              refine s_aload_n kx_197_248 rfl ?_
              refine s_bipush (v := 62) kx_197_249 (by decide) ?_
              refine s_callV2 (k := 63) (s1 := 2) (s2 := 1) (as := [(0, 62)]) (rest := [rf 63]) kx_197_251 kp_197_283 (Or.inl rfl) rfl (tk_63 hT) ki_181 kcl_181 rfl rfl (by decide) (m_181 (d := d + 1) (c := 62) hT hI144) (kF (fun v160 v160p => ?_))
              have hiss161 := ((LyA.fr hz.2 fr144 rfl).iss (c := 62))
              refine s_if_eq (t := 262) kx_197_254 (by decide) (fun hc162 => ?_) (fun hc162 => ?_)
              · replace v160p := v160p.resolve_left (by omega)
                refine s_bipush (v := 19) kx_197_262 (by decide) ?_
                exact cP.wk (lS1 rfl (lS1 rfl lS0)) (jn165 19 (by omega) (by omega) (by omega) (co_19 (by omega) (by omega) (by omega)).symm)
              · replace v160p := v160p.resolve_right (by omega)
                refine s_bipush (v := 18) kx_197_257 (by decide) ?_
                refine s_goto (t := 264) kx_197_259 (by decide) ?_
                exact cP.wk (lS1 rfl (lS1 rfl lS0)) (jn165 18 (by omega) (by omega) (by omega) (by have z := co_62 (s := s) (n := n) (p := p) (by omega); omega))
            · have hJ163 : Fr gS_197_j240 M144 M144 := Fr.refl
              replace v156p := v156p.resolve_right (by omega)
              refine s_bipush (v := 17) kx_197_243 (by decide) ?_
              refine s_goto (t := 264) kx_197_245 (by decide) ?_
              exact cP.wk (lS1 rfl (lS1 rfl lS0)) (jn165 17 (by omega) (by omega) (by omega) (by have z := co_60 (s := s) (n := n) (p := p) (by omega); omega))
          refine s_if_ne (t := 228) kx_197_207 (by decide) (fun hc131 => ?_) (fun hc131 => ?_)
          · have hJ132 : Fr gS_197_j207 M2 M2 := Fr.refl
            replace v129p := v129p.resolve_right (by omega)
            exact cP.wk (lS1 rfl (lS1 rfl lS0)) (jn140 (by have z := co_60 (s := s) (n := n) (p := p) (by omega); omega) (by omega))
          · have hJ133 : Fr gS_197_j207 M2 M2 := Fr.refl
            replace v129p := v129p.resolve_left (by omega)
            refine s_aload_n kx_197_210 rfl ?_
            refine s_bipush (v := 62) kx_197_211 (by decide) ?_
            refine s_callV2 (k := 63) (s1 := 2) (s2 := 0) (as := [(0, 62)]) (rest := []) kx_197_213 kp_197_283 (Or.inl rfl) rfl (tk_63 hT) ki_181 kcl_181 rfl rfl (by decide) (m_181 (d := d + 1) (c := 62) hT hI2) (kF (fun v134 v134p => ?_))
            have hiss135 := (hz.2.iss (c := 62))
            refine s_if_ne (t := 228) kx_197_216 (by decide) (fun hc136 => ?_) (fun hc136 => ?_)
            · replace v134p := v134p.resolve_right (by omega)
              exact cP.wk (lS1 rfl (lS1 rfl lS0)) (jn140 (by have z := co_62 (s := s) (n := n) (p := p) (by omega); omega) (by omega))
            · replace v134p := v134p.resolve_left (by omega)
              refine s_aload_n kx_197_219 rfl ?_
              refine s_bipush (v := 61) kx_197_220 (by decide) ?_
              refine s_callV2 (k := 63) (s1 := 2) (s2 := 0) (as := [(0, 61)]) (rest := []) kx_197_222 kp_197_283 (Or.inl rfl) rfl (tk_63 hT) ki_181 kcl_181 rfl rfl (by decide) (m_181 (d := d + 1) (c := 61) hT hI2) (kF (fun v137 v137p => ?_))
              have hiss138 := (hz.2.iss (c := 61))
              refine s_if_eq (t := 285) kx_197_225 (by decide) (fun hc139 => ?_) (fun hc139 => ?_)
              · replace v137p := v137p.resolve_left (by omega)
                exact cP.wk (lS1 rfl (lS1 rfl (lS1 rfl (lS1 rfl lS0)))) (jn218 (fun g => by have g1 := g.1.1; have g2 := g.1.2; first | omega | exact g.2 (co_n (by omega) (by omega) (by omega))))
              · replace v137p := v137p.resolve_right (by omega)
                exact cP.wk (lS1 rfl (lS1 rfl lS0)) (jn140 (by have z := co_61 (s := s) (n := n) (p := p) (by omega); omega) (by omega))
    refine s_icmp_ge (t := 188) kx_197_39 (by decide) (fun hc18 => ?_) (fun hc18 => ?_)
    · have hJ19 : Fr gS_197_j39 M2 M2 := Fr.refl
      exact cP.wk (lS1 rfl (lS1 rfl (lS1 rfl (lS1 rfl lS0)))) (jn122 (fun g => by have g1 := g.1; first | omega | exact g.2 (ao_z (by omega) (by omega) (by omega) (by omega) (by omega))))
    · have hJ20 : Fr gS_197_j39 M2 M2 := Fr.refl
      refine s_aload_n kx_197_42 rfl ?_
      refine s_bipush (v := 43) kx_197_43 (by decide) ?_
      refine s_callV2 (k := 63) (s1 := 2) (s2 := 0) (as := [(0, 43)]) (rest := []) kx_197_45 kp_197_283 (Or.inl rfl) rfl (tk_63 hT) ki_181 kcl_181 rfl rfl (by decide) (m_181 (d := d + 1) (c := 43) hT hI2) (kF (fun v21 v21p => ?_))
      have hiss22 := (hz.2.iss (c := 43))
      have jn38 : (owAo s n p ≠ 0) → (1 ≤ M 63 3) → cP k_P xs Ln (d + 2) 197 88 [(0, rf 63)] [rf 63] (T, M2) (qW T M gS_197_m 0 (fun v M1 => 0 ≤ v ∧ v ≤ 1 ∧ (LXp M1 ∧ M 63 4 ≤ M1 63 4 ∧ M 63 9 ≤ M1 63 9 ∧ (GOd M M1 c a v ∧ KP M M1) ∧ (StG M1 s n (pSt s n (1, (k_, ph, bg, pr, os_) :: fs_, cs, p)) v)))) := by
        clear hiss22 v21p
        intro a39 a40
        refine s_aload_n kx_197_88 rfl ?_
        refine s_bipush (v := 43) kx_197_89 (by decide) ?_
        refine s_callV2 (k := 63) (s1 := 2) (s2 := 1) (as := [(0, 43)]) (rest := [rf 63]) kx_197_91 kp_197_283 (Or.inl rfl) rfl (tk_63 hT) ki_181 kcl_181 rfl rfl (by decide) (m_181 (d := d + 1) (c := 43) hT hI2) (kF (fun v41 v41p => ?_))
        have hiss42 := (hz.2.iss (c := 43))
        have jn50 : ∀ (y49 : Int), (5 ≤ y49) → (y49 ≤ 6) → ((y49 = 5 ∧ owAo s n p ≤ 11) ∨ (y49 = 6 ∧ 12 ≤ owAo s n p)) → cP k_P xs Ln (d + 2) 197 112 [(0, rf 63)] [(0, y49), rf 63] (T, M2) (qW T M gS_197_m 0 (fun v M1 => 0 ≤ v ∧ v ≤ 1 ∧ (LXp M1 ∧ M 63 4 ≤ M1 63 4 ∧ M 63 9 ≤ M1 63 9 ∧ (GOd M M1 c a v ∧ KP M M1) ∧ (StG M1 s n (pSt s n (1, (k_, ph, bg, pr, os_) :: fs_, cs, p)) v)))) := by
          clear hiss42 v41p
          intro y49 a51 a52 a53
          refine s_callV2 (k := 63) (s1 := 2) (s2 := 0) (as := [(0, y49)]) (rest := []) kx_197_112 kp_197_370 (Or.inl rfl) rfl (tk_63 hT) ki_191 kcl_191 rfl rfl (by decide) (f_191 (d := d) (least := y49) hT hI2 (PI.fr hP fr2 rfl) (QJ.fr hQ fr2 rfl) (by omega) (by omega) (by omega)) (kV (fun M55 hI55 fr55 v54p => ?_))
          have hFm55 := hFm2.call fr55 rfl
          have hFj3955 := hJ20.call fr55 rfl
          have tr56 := (fr55 63 3 rfl)
          have tr57 := (fr55 63 4 rfl)
          have tr58 := (fr55 63 5 rfl)
          have tr59 := (fr55 63 9 rfl)
          have tr60 := (fr55 63 42 rfl)
          have tr61 := (fr55 63 10 rfl)
          have tr62 := (fr55 63 46 rfl)
          have tr63 := rg_63_9 hI55
          have hd64 := PI.deep v54p.1
          have hs65 := PI.small v54p.1 (rg_63_43 hI55).2 (by decide)
          have hs65a := hs65.1
          have hs65b := hs65.2.1
          have hs65c := rg_63_45 hI55
          have hK66 := KP.trans (KP.fr (KP.refl (M := M)) fr2 (fun _ => rfl)) (fr2 63 36 rfl) v54p.2.1
          refine s_aload_n kx_197_115 rfl ?_
          refine s_aload_n kx_197_116 rfl ?_
          refine s_bipush (v := 43) kx_197_117 (by decide) ?_
          refine s_callV2 (k := 63) (s1 := 2) (s2 := 1) (as := [(0, 43)]) (rest := [rf 63]) kx_197_119 kp_197_283 (Or.inl rfl) rfl (tk_63 hT) ki_181 kcl_181 rfl rfl (by decide) (m_181 (d := d + 1) (c := 43) hT hI55) (kF (fun v67 v67p => ?_))
          have hiss68 := ((LyA.fr hz.2 fr55 rfl).iss (c := 43))
          have jn82 : ∀ (y81 : Int), (10 ≤ y81) → (y81 ≤ 14) → (y81 = owAo s n p) → cP k_P xs Ln (d + 2) 197 174 [(0, rf 63)] [(0, y81), rf 63] (T, M55) (qW T M gS_197_m 0 (fun v M1 => 0 ≤ v ∧ v ≤ 1 ∧ (LXp M1 ∧ M 63 4 ≤ M1 63 4 ∧ M 63 9 ≤ M1 63 9 ∧ (GOd M M1 c a v ∧ KP M M1) ∧ (StG M1 s n (pSt s n (1, (k_, ph, bg, pr, os_) :: fs_, cs, p)) v)))) := by
            clear hiss68 v67p
            intro y81 a83 a84 a85
            refine s_callV2 (k := 63) (s1 := 2) (s2 := 0) (as := [(0, y81)]) (rest := []) kx_197_174 kp_197_364 (Or.inl rfl) rfl (tk_63 hT) ki_192 kcl_192 rfl rfl (by decide) (m_192 (d := d + 1) (op := y81) hT hI55 (by omega) (by omega)) (kV (fun M87 hI87 fr87 v86p => ?_))
            have hFm87 := hFm55.call fr87 rfl
            have hFj3987 := hFj3955.call fr87 rfl
            have tr88 := (fr87 63 3 rfl)
            have tr89 := (fr87 63 4 rfl)
            have tr90 := (fr87 63 5 rfl)
            have tr91 := (fr87 63 9 rfl)
            have tr92 := (fr87 63 35 rfl)
            have tr93 := (fr87 63 42 rfl)
            have tr94 := (fr87 63 43 rfl)
            have tr95 := (fr87 63 10 rfl)
            have tr96 := (fr87 63 46 rfl)
            have tr97 := rg_63_9 hI87
            have hqj98 := QJ.hold (e' := 0) v54p.2.2 fr87 v86p.1 v86p.2.1 v86p.2.2 (by rw [if_neg (by omega)]; omega)
            have hP99 := PI.holdA v54p.1 (B0.fr (B0.fr hB fr2 rfl (fun _ => rfl)) fr55 rfl (fun _ => rfl)) (by omega) fr87 v86p.1 v86p.2.1 v86p.2.2
            refine s_aload_n kx_197_177 rfl ?_
            refine s_callV2 (k := 63) (s1 := 1) (s2 := 0) (as := []) (rest := []) kx_197_178 kp_197_286 (Or.inl rfl) rfl (tk_63 hT) ki_180 kcl_180 rfl rfl (by decide) (f_180 (d := d) hT hI87 (LyA.fr (LyA.fr hz.2 fr55 rfl) fr87 rfl).1 (LyA.fr (LyA.fr hz.2 fr55 rfl) fr87 rfl).2.1 (LyA.fr (LyA.fr hz.2 fr55 rfl) fr87 rfl).2.2.2.2.2.1 (owE_i2 ⟨(LyA.fr (LyA.fr hz.2 fr55 rfl) fr87 rfl).2.2.1, (LyA.fr (LyA.fr hz.2 fr55 rfl) fr87 rfl).2.2.2.1⟩).1 (owE_i2 ⟨(LyA.fr (LyA.fr hz.2 fr55 rfl) fr87 rfl).2.2.1, (LyA.fr (LyA.fr hz.2 fr55 rfl) fr87 rfl).2.2.2.1⟩).2 (LyA.fr (LyA.fr hz.2 fr55 rfl) fr87 rfl).2.2.2.2.2.2.2.2.2.2.2.2) (kV (fun M101 hI101 fr101 v100p => ?_))
            have hFm101 := hFm87.call fr101 rfl
            have hFj39101 := hFj3987.call fr101 rfl
            have tr102 := (fr101 63 9 rfl)
            have tr103 := (fr101 63 35 rfl)
            have tr104 := (fr101 63 42 rfl)
            have tr105 := (fr101 63 43 rfl)
            have tr106 := (fr101 63 45 rfl)
            have tr107 := (fr101 63 10 rfl)
            have tr108 := (fr101 63 46 rfl)
            have tr109 := rg_63_9 hI101
            refine s_aload_n kx_197_181 rfl ?_
            refine s_iconst (v := 0) kx_197_182 (by decide) ?_
            refine r_put (k := 63) (f := 46) kx_197_183 kp_197_152 (tk_63 hT) kf_12_46 rfl (by decide) (by decide) hI101 (ru_63_46 (by omega) (by omega)) (fun M110 hI110 u110 => ?_)
            have hFm110 := hFm101.up u110 rfl
            have hFj39110 := hFj39101.up u110 rfl
            have tr111 := (u110.2 63 3 (by omega))
            have tr112 := (u110.2 63 4 (by omega))
            have tr113 := (u110.2 63 5 (by omega))
            have tr114 := (u110.2 63 9 (by omega))
            have tr115 := (u110.2 63 35 (by omega))
            have tr116 := (u110.2 63 42 (by omega))
            have tr117 := (u110.2 63 43 (by omega))
            have tr118 := (u110.2 63 45 (by omega))
            have tr119 := (u110.2 63 10 (by omega))
            have tr120 := u110.1
            refine s_iconst (v := 1) kx_197_186 (by decide) ?_
            have hk121 : M110 63 9 = v12 := ((u110.2 63 9 (by omega)).trans ((fr101 63 9 rfl).trans ((fr87 63 9 rfl).trans ((fr55 63 9 rfl).trans v12e))))
            exact s_iret kx_197_187 (Or.inr ⟨kq_197, by omega⟩) ⟨_, _, rfl, rfl, hI110, hFm110, ⟨by omega, by omega, (LXp.up (show LXp M101 from v100p.2.2) u110 (by decide)), (by omega), (by omega), ⟨(Or.inr (Or.inr ⟨rfl, by omega, Or.inl ⟨u110.1, PI.to7 (PI.fr (PI.fr hP99 fr101 rfl) (Up.fr u110) rfl) (by omega)⟩⟩)), (KP.up (KP.fr (KP.fr hK66 fr87 (fun _ => rfl)) fr101 (fun _ => rfl)) u110 (by decide))⟩, (StG.l (g_ao hK5 (by omega) (by omega) (by omega) (by omega)) rfl u110.1 (QJ.up (QJ.fr hqj98 fr101 rfl) u110 (by decide)) (by omega) (LyA.up v100p.1 u110 (by decide)))⟩⟩
          refine s_if_eq (t := 130) kx_197_122 (by decide) (fun hc69 => ?_) (fun hc69 => ?_)
          · have hJ70 : Fr gS_197_j122 M55 M55 := Fr.refl
            replace v67p := v67p.resolve_left (by omega)
            refine s_aload_n kx_197_130 rfl ?_
            refine s_bipush (v := 45) kx_197_131 (by decide) ?_
            refine s_callV2 (k := 63) (s1 := 2) (s2 := 1) (as := [(0, 45)]) (rest := [rf 63]) kx_197_133 kp_197_283 (Or.inl rfl) rfl (tk_63 hT) ki_181 kcl_181 rfl rfl (by decide) (m_181 (d := d + 1) (c := 45) hT hI55) (kF (fun v71 v71p => ?_))
            have hiss72 := ((LyA.fr hz.2 fr55 rfl).iss (c := 45))
            refine s_if_eq (t := 144) kx_197_136 (by decide) (fun hc73 => ?_) (fun hc73 => ?_)
            · replace v71p := v71p.resolve_left (by omega)
              refine s_aload_n kx_197_144 rfl ?_
              refine s_bipush (v := 42) kx_197_145 (by decide) ?_
              refine s_callV2 (k := 63) (s1 := 2) (s2 := 1) (as := [(0, 42)]) (rest := [rf 63]) kx_197_147 kp_197_283 (Or.inl rfl) rfl (tk_63 hT) ki_181 kcl_181 rfl rfl (by decide) (m_181 (d := d + 1) (c := 42) hT hI55) (kF (fun v74 v74p => ?_))
              have hiss75 := ((LyA.fr hz.2 fr55 rfl).iss (c := 42))
              refine s_if_eq (t := 158) kx_197_150 (by decide) (fun hc76 => ?_) (fun hc76 => ?_)
              · replace v74p := v74p.resolve_left (by omega)
                refine s_aload_n kx_197_158 rfl ?_
                refine s_bipush (v := 47) kx_197_159 (by decide) ?_
                refine s_callV2 (k := 63) (s1 := 2) (s2 := 1) (as := [(0, 47)]) (rest := [rf 63]) kx_197_161 kp_197_283 (Or.inl rfl) rfl (tk_63 hT) ki_181 kcl_181 rfl rfl (by decide) (m_181 (d := d + 1) (c := 47) hT hI55) (kF (fun v77 v77p => ?_))
                have hiss78 := ((LyA.fr hz.2 fr55 rfl).iss (c := 47))
                refine s_if_eq (t := 172) kx_197_164 (by decide) (fun hc79 => ?_) (fun hc79 => ?_)
                · replace v77p := v77p.resolve_left (by omega)
                  refine s_bipush (v := 14) kx_197_172 (by decide) ?_
                  exact cP.wk (lS1 rfl lS0) (jn82 14 (by omega) (by omega) (ao_14 (by omega) (by omega) (by omega) (by omega) (by omega)).symm)
                · replace v77p := v77p.resolve_right (by omega)
                  refine s_bipush (v := 13) kx_197_167 (by decide) ?_
                  refine s_goto (t := 174) kx_197_169 (by decide) ?_
                  exact cP.wk (lS1 rfl lS0) (jn82 13 (by omega) (by omega) (by have z := ao_47 (s := s) (n := n) (p := p) (by omega); omega))
              · replace v74p := v74p.resolve_right (by omega)
                refine s_bipush (v := 12) kx_197_153 (by decide) ?_
                refine s_goto (t := 174) kx_197_155 (by decide) ?_
                exact cP.wk (lS1 rfl lS0) (jn82 12 (by omega) (by omega) (by have z := ao_42 (s := s) (n := n) (p := p) (by omega); omega))
            · replace v71p := v71p.resolve_right (by omega)
              refine s_bipush (v := 11) kx_197_139 (by decide) ?_
              refine s_goto (t := 174) kx_197_141 (by decide) ?_
              exact cP.wk (lS1 rfl lS0) (jn82 11 (by omega) (by omega) (by have z := ao_45 (s := s) (n := n) (p := p) (by omega); omega))
          · have hJ80 : Fr gS_197_j122 M55 M55 := Fr.refl
            replace v67p := v67p.resolve_right (by omega)
            refine s_bipush (v := 10) kx_197_125 (by decide) ?_
            refine s_goto (t := 174) kx_197_127 (by decide) ?_
            exact cP.wk (lS1 rfl lS0) (jn82 10 (by omega) (by omega) (by have z := ao_43 (s := s) (n := n) (p := p) (by omega); omega))
        refine s_if_ne (t := 106) kx_197_94 (by decide) (fun hc43 => ?_) (fun hc43 => ?_)
        · have hJ44 : Fr gS_197_j94 M2 M2 := Fr.refl
          replace v41p := v41p.resolve_right (by omega)
          refine s_iconst (v := 5) kx_197_106 (by decide) ?_
          refine s_goto (t := 112) kx_197_107 (by decide) ?_
          exact cP.wk (lS1 rfl lS0) (jn50 5 (by omega) (by omega) (Or.inl ⟨rfl, by first | (have z := ao_43 (s := s) (n := n) (p := p) (by omega); omega) | (have z := ao_45 (s := s) (n := n) (p := p) (by omega); omega)⟩))
        · have hJ45 : Fr gS_197_j94 M2 M2 := Fr.refl
          replace v41p := v41p.resolve_left (by omega)
          refine s_aload_n kx_197_97 rfl ?_
          refine s_bipush (v := 45) kx_197_98 (by decide) ?_
          refine s_callV2 (k := 63) (s1 := 2) (s2 := 1) (as := [(0, 45)]) (rest := [rf 63]) kx_197_100 kp_197_283 (Or.inl rfl) rfl (tk_63 hT) ki_181 kcl_181 rfl rfl (by decide) (m_181 (d := d + 1) (c := 45) hT hI2) (kF (fun v46 v46p => ?_))
          have hiss47 := (hz.2.iss (c := 45))
          refine s_if_eq (t := 110) kx_197_103 (by decide) (fun hc48 => ?_) (fun hc48 => ?_)
          · replace v46p := v46p.resolve_left (by omega)
            refine s_bipush (v := 6) kx_197_110 (by decide) ?_
            exact cP.wk (lS1 rfl lS0) (jn50 6 (by omega) (by omega) (Or.inr ⟨rfl, ao_ge (by omega) (by omega) (by omega)⟩))
          · replace v46p := v46p.resolve_right (by omega)
            refine s_iconst (v := 5) kx_197_106 (by decide) ?_
            refine s_goto (t := 112) kx_197_107 (by decide) ?_
            exact cP.wk (lS1 rfl lS0) (jn50 5 (by omega) (by omega) (Or.inl ⟨rfl, by first | (have z := ao_43 (s := s) (n := n) (p := p) (by omega); omega) | (have z := ao_45 (s := s) (n := n) (p := p) (by omega); omega)⟩))
      refine s_if_ne (t := 87) kx_197_48 (by decide) (fun hc23 => ?_) (fun hc23 => ?_)
      · have hJ24 : Fr gS_197_j48 M2 M2 := Fr.refl
        replace v21p := v21p.resolve_right (by omega)
        refine s_aload_n kx_197_87 rfl ?_
        exact cP.wk (lS1 rfl lS0) (jn38 (by have z := ao_43 (s := s) (n := n) (p := p) (by omega); omega) (by omega))
      · have hJ25 : Fr gS_197_j48 M2 M2 := Fr.refl
        replace v21p := v21p.resolve_left (by omega)
        refine s_aload_n kx_197_51 rfl ?_
        refine s_bipush (v := 45) kx_197_52 (by decide) ?_
        refine s_callV2 (k := 63) (s1 := 2) (s2 := 0) (as := [(0, 45)]) (rest := []) kx_197_54 kp_197_283 (Or.inl rfl) rfl (tk_63 hT) ki_181 kcl_181 rfl rfl (by decide) (m_181 (d := d + 1) (c := 45) hT hI2) (kF (fun v26 v26p => ?_))
        have hiss27 := (hz.2.iss (c := 45))
        refine s_if_ne (t := 87) kx_197_57 (by decide) (fun hc28 => ?_) (fun hc28 => ?_)
        · replace v26p := v26p.resolve_right (by omega)
          refine s_aload_n kx_197_87 rfl ?_
          exact cP.wk (lS1 rfl lS0) (jn38 (by have z := ao_45 (s := s) (n := n) (p := p) (by omega); omega) (by omega))
        · replace v26p := v26p.resolve_left (by omega)
          refine s_aload_n kx_197_60 rfl ?_
          refine s_bipush (v := 42) kx_197_61 (by decide) ?_
          refine s_callV2 (k := 63) (s1 := 2) (s2 := 0) (as := [(0, 42)]) (rest := []) kx_197_63 kp_197_283 (Or.inl rfl) rfl (tk_63 hT) ki_181 kcl_181 rfl rfl (by decide) (m_181 (d := d + 1) (c := 42) hT hI2) (kF (fun v29 v29p => ?_))
          have hiss30 := (hz.2.iss (c := 42))
          refine s_if_ne (t := 87) kx_197_66 (by decide) (fun hc31 => ?_) (fun hc31 => ?_)
          · replace v29p := v29p.resolve_right (by omega)
            refine s_aload_n kx_197_87 rfl ?_
            exact cP.wk (lS1 rfl lS0) (jn38 (by have z := ao_42 (s := s) (n := n) (p := p) (by omega); omega) (by omega))
          · replace v29p := v29p.resolve_left (by omega)
            refine s_aload_n kx_197_69 rfl ?_
            refine s_bipush (v := 47) kx_197_70 (by decide) ?_
            refine s_callV2 (k := 63) (s1 := 2) (s2 := 0) (as := [(0, 47)]) (rest := []) kx_197_72 kp_197_283 (Or.inl rfl) rfl (tk_63 hT) ki_181 kcl_181 rfl rfl (by decide) (m_181 (d := d + 1) (c := 47) hT hI2) (kF (fun v32 v32p => ?_))
            have hiss33 := (hz.2.iss (c := 47))
            refine s_if_ne (t := 87) kx_197_75 (by decide) (fun hc34 => ?_) (fun hc34 => ?_)
            · replace v32p := v32p.resolve_right (by omega)
              refine s_aload_n kx_197_87 rfl ?_
              exact cP.wk (lS1 rfl lS0) (jn38 (by have z := ao_47 (s := s) (n := n) (p := p) (by omega); omega) (by omega))
            · replace v32p := v32p.resolve_left (by omega)
              refine s_aload_n kx_197_78 rfl ?_
              refine s_bipush (v := 37) kx_197_79 (by decide) ?_
              refine s_callV2 (k := 63) (s1 := 2) (s2 := 0) (as := [(0, 37)]) (rest := []) kx_197_81 kp_197_283 (Or.inl rfl) rfl (tk_63 hT) ki_181 kcl_181 rfl rfl (by decide) (m_181 (d := d + 1) (c := 37) hT hI2) (kF (fun v35 v35p => ?_))
              have hiss36 := (hz.2.iss (c := 37))
              refine s_if_eq (t := 188) kx_197_84 (by decide) (fun hc37 => ?_) (fun hc37 => ?_)
              · replace v35p := v35p.resolve_left (by omega)
                exact cP.wk (lS1 rfl (lS1 rfl (lS1 rfl (lS1 rfl lS0)))) (jn122 (fun g => by have g1 := g.1; first | omega | exact g.2 (ao_z (by omega) (by omega) (by omega) (by omega) (by omega))))
              · replace v35p := v35p.resolve_right (by omega)
                refine s_aload_n kx_197_87 rfl ?_
                exact cP.wk (lS1 rfl lS0) (jn38 (by have z := ao_37 (s := s) (n := n) (p := p) (by omega); omega) (by omega))
  · have hp9 := Yst.pos v1p.1 (by omega)
    have hk5 : owK s n p = 5 := Decidable.byContradiction fun g => hp9.1 (by unfold yLx; rw [if_neg (by decide), if_neg g])
    refine s_iconst (v := 0) kx_197_11 (by decide) ?_
    have hk734 : M2 63 9 = v12 := v12e
    exact s_iret kx_197_12 (Or.inr ⟨kq_197, by omega⟩) ⟨_, _, rfl, rfl, hI2, hFm2, ⟨by omega, by omega, (LXp.fr hX fr2 rfl), (by omega), (by omega), ⟨(Or.inl (by omega)), (KP.fr (KP.refl (M := M)) fr2 (fun _ => rfl))⟩, (StG.r (g5 hk5) rfl (by have hp := Yst.pos v1p.1 (by omega); rw [show owU s n p = yLx s n 0 p by unfold yLx; rw [if_neg (by decide), if_pos hk5, owU5 hk5]]; exact hp))⟩⟩
