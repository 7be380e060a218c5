/-! opens, operand, goesOn -/
def yOpF (s : Nat → Int) (n f p : Int) (gs : List pF) : Int := if f ≠ 0 then f else if pOp gs = 7 then 50000 + owB s n p else 0
section YOP
variable {M M1 : cM} {s : Nat → Int} {n f p : Int} {gs : List pF}
theorem yop_f (h : Yst M s n f p) (hp : M 63 9 ≠ 0) : yOpF s n f p gs ≠ 0 ∧ FlY M (yOpF s n f p gs) := by
  have := h.pos hp
  unfold yOpF
  rw [if_pos this.1]
  exact this
theorem yop_b {x : Int} (h : Yst M s n f p) (hn : n ≤ 1600) (h7 : pOp gs = 7) (hx : x = M 63 4) (hb : (M 63 9 ≠ 0 ∧ M1 63 9 = M 63 9 ∧ M1 63 10 = M 63 10) ∨ (M 63 9 = 0 ∧ M1 63 9 = 5 ∧ M1 63 10 = x)) : yOpF s n f p gs ≠ 0 ∧ FlY M1 (yOpF s n f p gs) := by
  have h1 := yst_blame (q' := p) h hn (show (1 : Int) ≤ 5 by decide) hx hb
  have e : yOpF s n f p gs = if f ≠ 0 then f else 10000 * 5 + owB s n p := by
    unfold yOpF
    split
    · rfl
    · first | omega | (rw [if_pos h7]; omega)
  rw [← e] at h1
  rcases h1 with h1 | ⟨h2, h3, h4⟩
  · exact h1
  · have := h4.2.2.1
    have hb2 := owB_ge (s := s) (n := n) (p := p)
    rw [e] at h2
    split at h2 <;> omega
end YOP
/-- the machine's step, on the heap -/
def StT (M : cM) (s : Nat → Int) (n : Int) (a : pRa) (r : pSs ⊕ pRs) (v : Int) : Prop := match r with
  | .inl τ => τ.1 = v ∧ QJ M τ.2.1 0 ∧ M 63 9 = 0 ∧ LyA M s n τ.2.2.2 ∧ RCo M a τ.2.2.1
  | .inr r => r.1 ≠ 0 ∧ FlY M r.1
section STT
variable {M : cM} {s : Nat → Int} {n p v k ph bg pr : Int} {a : pRa} {ops : List Int} {fs : List pF} {cs : List Int}
theorem StT.l {r : pSs ⊕ pRs} {o : Int} {gs : List pF} {c : List Int} {q : Int} (h : r = .inl (o, gs, c, q)) (ho : o = v) (h1 : QJ M gs 0) (h2 : M 63 9 = 0) (h3 : LyA M s n q) (h4 : RCo M a c) : StT M s n a r v := by
  rw [h]
  exact ⟨ho, h1, h2, h3, h4⟩
theorem StT.r {r : pSs ⊕ pRs} {f q : Int} {c : List Int} (h : r = .inr (f, q, c)) (h1 : f ≠ 0 ∧ FlY M f) : StT M s n a r v := by
  rw [h]
  exact h1
theorem od0 : pSt s n (0, (k, ph, bg, pr, ops) :: fs, cs, p) = pOd s n k ph bg pr ops fs cs p := by
  show (if (0 : Int) = 0 then pOd s n k ph bg pr ops fs cs p else pGo s n k ph bg pr ops fs cs p) = _
  rw [if_pos rfl]
theorem od_n (h5 : owK s n p ≠ 5) (hf : pT k ∧ bg = 1) (h : owW s n p 486146048 = 1) (h7 : pOp ((k, ph, bg, pr, ops) :: fs) ≠ 7) : pSt s n (0, (k, ph, bg, pr, ops) :: fs, cs, p) = .inl (0, (k, ph, bg, pr, 22 :: ops) :: fs, cs, owE s n p) := by
  rw [od0]
  unfold pOd
  rw [if_neg h5, if_pos ⟨hf, h⟩, if_neg h7]
theorem od_n7 (h5 : owK s n p ≠ 5) (hf : pT k ∧ bg = 1) (h : owW s n p 486146048 = 1) (h7 : pOp ((k, ph, bg, pr, ops) :: fs) = 7) : pSt s n (0, (k, ph, bg, pr, ops) :: fs, cs, p) = .inr (50000 + owB s n p, p, cs) := by
  rw [od0]
  unfold pOd
  rw [if_neg h5, if_pos ⟨hf, h⟩, if_pos h7]
theorem od_q (h5 : owK s n p ≠ 5) (hf : pT k ∧ bg = 1) (h0 : owW s n p 486146048 = 0) (h : owG s n p 91 = 1) : pSt s n (0, (k, ph, bg, pr, ops) :: fs, cs, p) = (if pOp ((k, ph, bg, pr, ops) :: fs) = 7 then .inr (50000 + owB s n p, p, cs) else .inl (0, (5, 0, 1, 0, []) :: (k, ph, 0, pr, ops) :: fs, cs, owE s n p)) := by
  rw [od0]
  unfold pOd
  rw [if_neg h5, if_neg (fun g => by omega), if_pos ⟨hf, h⟩]
theorem od_a (h5 : owK s n p ≠ 5) (hf : pT k ∧ bg = 1) (h0 : owW s n p 486146048 = 0) (h1 : owG s n p 91 = 0) (h : owW s n p 46530560 = 1) : pSt s n (0, (k, ph, bg, pr, ops) :: fs, cs, p) = .inl (1, (k, 2, 0, pr, ops) :: fs, 1 :: cs, owE s n p) := by
  rw [od0]
  unfold pOd
  rw [if_neg h5, if_neg (fun g => by omega), if_neg (fun g => by omega), if_pos ⟨hf, h⟩]
/-- no beginning of a test -/
def nFst (s : Nat → Int) (n p k bg : Int) : Prop := ¬ (pT k ∧ bg = 1) ∨ (owW s n p 486146048 = 0 ∧ owG s n p 91 = 0 ∧ owW s n p 46530560 = 0)
theorem od_e (h5 : owK s n p ≠ 5) (hf : nFst s n p k bg) : pSt s n (0, (k, ph, bg, pr, ops) :: fs, cs, p) = pOe s n k ph bg pr ops fs cs p := by
  rw [od0]
  unfold pOd
  rcases hf with hf | hf
  · rw [if_neg h5, if_neg (fun g => hf g.1), if_neg (fun g => hf g.1), if_neg (fun g => hf g.1)]
  · rw [if_neg h5, if_neg (fun g => by omega), if_neg (fun g => by omega), if_neg (fun g => by omega)]
theorem od_p (h5 : owK s n p ≠ 5) (hf : nFst s n p k bg) (h : owG s n p 40 = 1) : pSt s n (0, (k, ph, bg, pr, ops) :: fs, cs, p) = (if pOp ((k, ph, bg, pr, ops) :: fs) = 7 then .inr (50000 + owB s n p, p, cs) else .inl (0, (2, 0, 1, 0, []) :: (k, ph, 0, pr, ops) :: fs, cs, owE s n p)) := by
  rw [od_e h5 hf]
  unfold pOe
  rw [if_pos h]
theorem od_m (h5 : owK s n p ≠ 5) (hf : nFst s n p k bg) (h0 : owG s n p 40 = 0) (h : owMx s n p ≠ 0) : pSt s n (0, (k, ph, bg, pr, ops) :: fs, cs, p) = (if owG s n (owE s n p) 40 = 0 then .inr (owU s n (owE s n p), p, cs) else if pOp ((k, ph, bg, pr, ops) :: fs) = 7 then .inr (50000 + owB s n (owE s n p), p, cs) else .inl (0, (if owMx s n p = 23 then 6 else 3, 0, 1, owMx s n p, []) :: (k, ph, 0, pr, ops) :: fs, cs, owE s n (owE s n p))) := by
  rw [od_e h5 hf]
  unfold pOe
  rw [if_neg (by omega), if_pos h]
theorem od_v {x : Int} (h5 : owK s n p ≠ 5) (hf : nFst s n p k bg) (h0 : owG s n p 40 = 0) (h1 : owMx s n p = 0) (h : (owK s n p = 3 ∧ x = owV s n p) ∨ (owK s n p ≠ 3 ∧ owCd s n p ≠ 0 ∧ x = owCd s n p)) : pSt s n (0, (k, ph, bg, pr, ops) :: fs, cs, p) = .inl (1, (k, ph, 0, pr, ops) :: fs, x :: cs, owE s n p) := by
  rw [od_e h5 hf]
  unfold pOe
  rcases h with ⟨h3, rfl⟩ | ⟨h3, h4, rfl⟩
  · rw [if_neg (by omega), if_neg (fun g => g h1), if_pos h3]
  · rw [if_neg (by omega), if_neg (fun g => g h1), if_neg h3, if_pos h4]
theorem od_x (h5 : owK s n p ≠ 5) (hf : nFst s n p k bg) (h0 : owG s n p 40 = 0) (h1 : owMx s n p = 0) (h3 : owK s n p ≠ 3) (h : owCd s n p = 0) : pSt s n (0, (k, ph, bg, pr, ops) :: fs, cs, p) = .inr (owU s n p, p, cs) := by
  rw [od_e h5 hf]
  unfold pOe
  rw [if_neg (by omega), if_neg (fun g => g h1), if_neg h3, if_neg (fun g => g h)]
theorem QJ.bg0 {M1 : cM} {f e : Int} (h : QJ M ((k, ph, bg, pr, ops) :: fs) e) (hf : f = M 63 42 - 1) (u : Up M 87 f.toNat 0 M1) : QJ M1 ((k, ph, 0, pr, ops) :: fs) e := by
  have := h.topw (w := 87) (by decide) hf u (by omega)
  simpa using this
theorem QJ.bg1 {M1 : cM} {f e : Int} (h : QJ M ((k, ph, bg, pr, ops) :: fs) e) (hf : f = M 63 42 - 1) (u : Up M 87 f.toNat 1 M1) : QJ M1 ((k, ph, 1, pr, ops) :: fs) e := by
  have := h.topw (w := 87) (by decide) hf u (by omega)
  simpa using this
theorem QJ.phs {M1 : cM} {f e x : Int} (h : QJ M ((k, ph, bg, pr, ops) :: fs) e) (hf : f = M 63 42 - 1) (u : Up M 86 f.toNat x M1) : QJ M1 ((k, x, bg, pr, ops) :: fs) e := by
  have := h.topw (w := 86) (by decide) hf u (by omega)
  simpa using this
theorem QJ.knd {M1 : cM} {f e x : Int} (h : QJ M ((k, ph, bg, pr, ops) :: fs) e) (hf : f = M 63 42 - 1) (hk : k = 3 ∨ k = 6) (u : Up M 85 f.toNat x M1) : QJ M1 ((x, ph, bg, pr, ops) :: fs) e := by
  have := h.topw (w := 85) (by decide) hf u (by omega)
  simpa using this
theorem mg_s1 {c f q : Int} (h : Yst M s n (yLx s n f q) q) (hi : isS M c = 1) : Yst M s n (yMg s n f q c) q := by
  by_cases g : yLx s n f q ≠ 0
  · rw [yLx_mg g]; exact h
  · have g0 : yLx s n f q = 0 := Decidable.not_not.mp g
    rcases h with ⟨a, b⟩ | ⟨a, b, d⟩
    · exact absurd g0 a
    · have h0 := yLx_0 g0 d.2.2.1
      rw [d.iss] at hi
      have e : yMg s n f q c = 0 := by
        unfold yMg
        rw [if_neg (by omega), if_neg (by omega)]
      rw [e]
      exact Or.inr ⟨rfl, b, d⟩
/-- what opens says, as the step's answer -/
theorem op_st {r : pSs ⊕ pRs} {kk f q : Int} {gs : List pF} {c : List Int} {v : Int} (hv : v = 0) (hr : r = (if pOp gs = 7 then .inr (50000 + owB s n q, p, c) else .inl (0, (kk, 0, 1, 0, []) :: gs, c, owE s n q))) (hk : kk = 2 ∨ kk = 5) (hq : 0 ≤ q) (h : (yOpF s n 0 q gs ≠ 0 ∧ FlY M (yOpF s n 0 q gs)) ∨ (yOpF s n 0 q gs = 0 ∧ (0 : Int) = 0 ∧ M 63 9 = 0 ∧ LyA M s n (owE s n q) ∧ (∀ P M2, Up M 88 (M 63 42 - 1).toNat P M2 → QJ M2 ((kk, 0, 1, P, []) :: gs) 0) ∧ (kk = 2 ∨ kk = 5 ∨ kk = 0 → QJ M ((kk, 0, 1, 0, []) :: gs) 0))) (hRC : RCo M a c) : StT M s n a r v := by
  have hb := owB_ge (s := s) (n := n) (p := q)
  by_cases h7 : pOp gs = 7
  · rw [if_pos h7] at hr
    have e : yOpF s n 0 q gs = 50000 + owB s n q := by unfold yOpF; rw [if_neg (by decide), if_pos h7]
    rw [e] at h
    rcases h with h | h
    · exact StT.r hr h
    · omega
  · rw [if_neg h7] at hr
    have e : yOpF s n 0 q gs = 0 := by unfold yOpF; rw [if_neg (by decide), if_neg h7]
    rw [e] at h
    rcases h with h | ⟨_, _, h9, hL, hP, hQ⟩
    · exact absurd rfl h.1
    · exact StT.l hr hv.symm (hQ (by omega)) h9 hL hRC
theorem mx_n (h1 : owW s n p 446103552 = 0) (h2 : owW s n p 438042624 = 0) (h3 : owW s n p 308281344 = 0) : owMx s n p = 0 := by
  unfold owMx
  rw [if_neg (by omega), if_neg (by omega), if_neg (by omega)]
theorem cd_n (h1 : owW s n p 672503392 = 0) (h2 : owW s n p 777297172 = 0) (h3 : owW s n p 659111367 = 0) (h4 : owW s n p 781325312 = 0) (h5 : owW s n p 113741152 = 0) (h6 : owW s n p 527892480 = 0) : owCd s n p = 0 := by
  unfold owCd
  rw [if_neg (by omega), if_neg (by omega), if_neg (by omega), if_neg (by omega), if_neg (by omega), if_neg (by omega)]
theorem mx_f (h5 : owK s n p ≠ 5) (hf : nFst s n p k bg) (h0 : owG s n p 40 = 0) (hm : owMx s n p ≠ 0) (hq : 0 ≤ owE s n p) (h : yOpF s n (yMg s n 0 (owE s n p) 40) (owE s n p) ((k, ph, 0, pr, ops) :: fs) ≠ 0 ∧ FlY M (yOpF s n (yMg s n 0 (owE s n p) 40) (owE s n p) ((k, ph, 0, pr, ops) :: fs))) : StT M s n a (pSt s n (0, (k, ph, bg, pr, ops) :: fs, cs, p)) v := by
  have e := od_m (ph := ph) (pr := pr) (ops := ops) (fs := fs) (cs := cs) h5 hf h0 hm
  have hu := owU_pos (s := s) (n := n) hq
  by_cases g : owG s n (owE s n p) 40 = 0
  · rw [if_pos g] at e
    have e2 : yOpF s n (yMg s n 0 (owE s n p) 40) (owE s n p) ((k, ph, 0, pr, ops) :: fs) = owU s n (owE s n p) := by
      unfold yOpF yMg
      rw [if_neg (show ¬ (0 : Int) ≠ 0 by decide), if_pos g, if_pos (by omega)]
    rw [e2] at h
    exact StT.r e h
  · rw [if_neg g] at e
    have e2 : yMg s n 0 (owE s n p) 40 = 0 := by
      unfold yMg
      rw [if_neg (show ¬ (0 : Int) ≠ 0 by decide), if_neg g]
    rw [e2] at h
    unfold yOpF at h
    rw [if_neg (show ¬ (0 : Int) ≠ 0 by decide), pOp_bg (bg := bg) (ph := ph)] at h
    by_cases h7 : pOp ((k, ph, bg, pr, ops) :: fs) = 7
    · rw [if_pos h7] at e h
      exact StT.r e h
    · rw [if_neg h7] at h
      exact absurd rfl h.1
theorem mx_k {M1 : cM} {kk P : Int} (hq : 0 ≤ owE s n p) (h5 : owK s n p ≠ 5) (hf : nFst s n p k bg) (h0 : owG s n p 40 = 0) (hm : owMx s n p ≠ 0) (h : yOpF s n (yMg s n 0 (owE s n p) 40) (owE s n p) ((k, ph, 0, pr, ops) :: fs) = 0 ∧ yMg s n 0 (owE s n p) 40 = 0 ∧ M 63 9 = 0 ∧ LyA M s n (owE s n (owE s n p)) ∧ (∀ P M2, Up M 88 (M 63 42 - 1).toNat P M2 → QJ M2 ((kk, 0, 1, P, []) :: (k, ph, 0, pr, ops) :: fs) 0) ∧ (kk = 2 ∨ kk = 5 ∨ kk = 0 → QJ M ((kk, 0, 1, 0, []) :: (k, ph, 0, pr, ops) :: fs) 0)) (u : Up M 88 (M 63 42 - 1).toNat P M1) (hP : P = owMx s n p) (hk : kk = if owMx s n p = 23 then 6 else 3) (hv : v = 0) (hRC : RCo M1 a cs) : StT M1 s n a (pSt s n (0, (k, ph, bg, pr, ops) :: fs, cs, p)) v := by
  have e := od_m (ph := ph) (pr := pr) (ops := ops) (fs := fs) (cs := cs) h5 hf h0 hm
  obtain ⟨h1, h2, h3, h4, h6, _⟩ := h
  have g : ¬ owG s n (owE s n p) 40 = 0 := fun g => by
    have hu := owU_pos (s := s) (n := n) hq
    unfold yMg at h2
    rw [if_neg (show ¬ (0 : Int) ≠ 0 by decide), if_pos g] at h2
    omega
  rw [if_neg g] at e
  rw [h2] at h1
  unfold yOpF at h1
  rw [if_neg (show ¬ (0 : Int) ≠ 0 by decide), pOp_bg (bg := bg) (ph := ph)] at h1
  have hb := owB_ge (s := s) (n := n) (p := owE s n p)
  have h7 : ¬ pOp ((k, ph, bg, pr, ops) :: fs) = 7 := fun h7 => by
    rw [if_pos h7] at h1
    omega
  rw [if_neg h7, ← hk, ← hP] at e
  exact StT.l e hv.symm (h6 P M1 u) ((u.2 63 9 (by omega)).trans h3) (h4.up u (by omega)) hRC
end STT
/-- an operand's code -/
theorem od_c {s : Nat → Int} {n p sort val : Int} (h : (sort = 0 ∧ owK s n p = 3) ∨ (1 ≤ sort ∧ sort ≤ 6 ∧ sort = -owCd s n p)) (hv : owK s n p = 3 → val = owV s n p) : ∃ x, ((owK s n p = 3 ∧ x = owV s n p) ∨ (owK s n p ≠ 3 ∧ owCd s n p ≠ 0 ∧ x = owCd s n p)) ∧ kdc x sort val := by
  rcases h with ⟨h1, h2⟩ | ⟨h1, h2, h3⟩
  · exact ⟨owV s n p, Or.inl ⟨h2, rfl⟩, Or.inl ⟨h1, (hv h2).symm, (owV_n h2).1⟩⟩
  · have h4 := owCd_1 (s := s) (n := n) (p := p) (by omega)
    exact ⟨owCd s n p, Or.inr ⟨by omega, by omega, rfl⟩, Or.inr (Or.inr (Or.inl ⟨h1, h2, by omega⟩))⟩
def gS_194_m : List (Nat × Nat) := [(63, 10), (63, 13), (63, 3), (63, 4), (63, 42), (63, 43), (63, 5), (63, 6), (63, 7), (63, 8), (63, 9), (85, 99999), (86, 99999), (87, 99999), (89, 99999)]
theorem f_194 {xs : Nat → Int} {Ln d : Nat} {T : List cK} {M : cM} (hT : TT T) (hI : Rng M) {kind : Int} (hX : LXp M) {s : Nat → Int} {n f p : Int} (hY : Yst M s n f p) (hn : n ≤ 1600) {gs : List pF} (hQ : QJ M gs 0) {c : Nat → Int} {a q : Int} (hP : PI M c a 0 7 q 0) (hB : B0 M) (p0 : 0 ≤ kind ∧ kind ≤ 6) : cC k_P xs Ln (d + 2) 194 [rf 63, (0, kind)] (T, M) (qV T M gS_194_m (fun M1 => LXp M1 ∧ M 63 4 ≤ M1 63 4 ∧ M 63 9 ≤ M1 63 9 ∧ (1 ≤ M1 63 9 ∨ (M 63 9 = 0 ∧ M 63 5 ≤ M1 63 4 ∧ 1 ≤ M1 63 42 ∧ PQ M1 c a (q + 1) kind)) ∧ ((yOpF s n f p gs ≠ 0 ∧ FlY M1 (yOpF s n f p gs)) ∨ (yOpF s n f p gs = 0 ∧ f = 0 ∧ M1 63 9 = 0 ∧ LyA M1 s n (owE s n p) ∧ (∀ P M2, Up M1 88 (M1 63 42 - 1).toNat P M2 → QJ M2 ((kind, 0, 1, P, []) :: gs) 0) ∧ (kind = 2 ∨ kind = 5 ∨ kind = 0 → QJ M1 ((kind, 0, 1, 0, []) :: gs) 0))))) := by
  show cP k_P xs Ln (d + 2) 194 0 [(0, rf 63), (1, (0, kind))] [] (T, M) _
  have hFm : Fr gS_194_m M M := Fr.refl
  have h639 := rg_63_9 hI
  have ⟨lx1, lx2⟩ := hX
  have hdd := PI.deep hP
  have hq3 := hQ.2.2.2
  refine s_aload_n kx_194_0 rfl ?_
  refine r_getI (k := 63) (f := 43) kx_194_1 kp_194_143 (tk_63 hT) kf_12_43 (fun _ => rfl) (rg_63_43 hI) (fun v1 v1e v1a v1b => ?_)
  refine s_bipush (v := 7) kx_194_4 (by decide) ?_
  refine s_icmp_ne (t := 18) kx_194_6 (by decide) (fun hc2 => ?_) (fun hc2 => ?_)
  · refine s_aload_n kx_194_18 rfl ?_
    refine r_getI (k := 63) (f := 9) kx_194_19 kp_194_39 (tk_63 hT) kf_12_9 (fun _ => rfl) (rg_63_9 hI) (fun v3 v3e v3a v3b => ?_)
    refine s_if_le (t := 26) kx_194_22 (by decide) (fun hc4 => ?_) (fun hc4 => ?_)
    · have hz := Yst.zero hY (by omega)
      have hzf := hz.1
      refine s_aload_n kx_194_26 rfl ?_
      refine s_dup kx_194_27 rfl ?_
      refine r_getK (k := 63) (f := 43) kx_194_28 kp_194_143 (tk_63 hT) kf_12_43 (fun _ => rfl) v1e ?_
      refine s_iconst (v := 1) kx_194_31 (by decide) ?_
      refine r_add kx_194_32 ⟨by omega, by omega⟩ ?_
      refine r_put (k := 63) (f := 43) kx_194_33 kp_194_143 (tk_63 hT) kf_12_43 rfl (by decide) (by decide) hI (ru_63_43 (by omega) (by omega)) (fun M5 hI5 u5 => ?_)
      have hFm5 := hFm.up u5 rfl
      have tr6 := (u5.2 63 3 (by omega))
      have tr7 := (u5.2 63 4 (by omega))
      have tr8 := (u5.2 63 5 (by omega))
      have tr9 := (u5.2 63 9 (by omega))
      have tr10 := (u5.2 63 35 (by omega))
      have tr11 := (u5.2 63 42 (by omega))
      have tr12 := u5.1
      have tr13 := (u5.2 63 45 (by omega))
      have tr14 := (u5.2 63 10 (by omega))
      refine s_aload_n kx_194_36 rfl ?_
      refine s_callV2 (k := 63) (s1 := 1) (s2 := 0) (as := []) (rest := []) kx_194_37 kp_194_286 (Or.inl rfl) rfl (tk_63 hT) ki_180 kcl_180 rfl rfl (by decide) (f_180 (d := d) hT hI5 (LyA.up hz.2 u5 (by decide)).1 (LyA.up hz.2 u5 (by decide)).2.1 (LyA.up hz.2 u5 (by decide)).2.2.2.2.2.1 (owE_i2 ⟨(LyA.up hz.2 u5 (by decide)).2.2.1, (LyA.up hz.2 u5 (by decide)).2.2.2.1⟩).1 (owE_i2 ⟨(LyA.up hz.2 u5 (by decide)).2.2.1, (LyA.up hz.2 u5 (by decide)).2.2.2.1⟩).2 (LyA.up hz.2 u5 (by decide)).2.2.2.2.2.2.2.2.2.2.2.2) (kV (fun M16 hI16 fr16 v15p => ?_))
      have hFm16 := hFm5.call fr16 rfl
      have tr17 := (fr16 63 9 rfl)
      have tr18 := (fr16 63 35 rfl)
      have tr19 := (fr16 63 42 rfl)
      have tr20 := (fr16 63 43 rfl)
      have tr21 := (fr16 63 45 rfl)
      have tr22 := (fr16 63 10 rfl)
      have tr23 := rg_63_9 hI16
      refine s_aload_n kx_194_40 rfl ?_
      refine s_iload_n kx_194_41 rfl ?_
      have hdo := PI.dop (PI.fr (PI.opn (e' := 1) hP u5 (by omega)) fr16 rfl)
      refine s_callV2 (k := 63) (s1 := 2) (s2 := 0) (as := [(0, kind)]) (rest := []) kx_194_42 kp_194_355 (Or.inl rfl) rfl (tk_63 hT) ki_193 kcl_193 rfl rfl (by decide) (m_193 (d := d + 1) (kind := kind) hT hI16 (by omega) (by omega)) (kV (fun M25 hI25 fr25 v24p => ?_))
      have hFm25 := hFm16.call fr25 rfl
      have tr26 := (fr25 63 3 rfl)
      have tr27 := (fr25 63 4 rfl)
      have tr28 := (fr25 63 5 rfl)
      have tr29 := (fr25 63 9 rfl)
      have tr30 := (fr25 63 35 rfl)
      have tr31 := (fr25 63 43 rfl)
      have tr32 := (fr25 63 45 rfl)
      have tr33 := (fr25 63 10 rfl)
      have tr34 := rg_63_9 hI25
      have hpq := PI.push (PI.fr (PI.opn (e' := 1) hP u5 (by omega)) fr16 rfl) rfl (B0.fr (B0.up hB u5 (by decide)) fr16 rfl (fun _ => rfl)) fr25 v24p
      have hq1 := v24p.1
      have hqq := (QJ.fr (QJ.opn (e' := 1) hQ u5 (by omega)) fr16 rfl)
      have hqf := fr25
      have hqu := v24p
      have hk35 : M25 63 9 = v3 := ((fr25 63 9 rfl).trans ((fr16 63 9 rfl).trans ((u5.2 63 9 (by omega)).trans v3e)))
      exact s_vret kx_194_45 kq_194 ⟨_, rfl, rfl, hI25, hFm25, ⟨(LXp.fr (show LXp M16 from v15p.2.2) fr25 rfl), (by omega), (by omega), (Or.inr ⟨by omega, by omega, by omega, hpq⟩), (Or.inr ⟨by unfold yOpF; (repeat' split) <;> omega, by omega, by omega, (LyA.fr v15p.1 fr25 rfl), fun P M2 u2 => QJ.push3 hqq hqf hqu u2, fun hk => QJ.push hqq hqf hqu hk⟩)⟩⟩
    · have hk36 : M 63 9 = v3 := v3e
      exact s_vret kx_194_25 kq_194 ⟨_, rfl, rfl, hI, hFm, ⟨hX, (by omega), (by omega), (Or.inl (by omega)), (Or.inl (yop_f hY (by omega)))⟩⟩
  · refine s_aload_n kx_194_9 rfl ?_
    refine s_iconst (v := 5) kx_194_10 (by decide) ?_
    refine s_aload_n kx_194_11 rfl ?_
    refine r_getI (k := 63) (f := 4) kx_194_12 kp_194_23 (tk_63 hT) kf_12_4 (fun _ => rfl) (rg_63_4 hI) (fun v37 v37e v37a v37b => ?_)
    refine s_callV2 (k := 63) (s1 := 3) (s2 := 0) (as := [(0, v37), (0, 5)]) (rest := []) kx_194_15 kp_194_263 (Or.inl rfl) rfl (tk_63 hT) ki_176 kcl_176 rfl rfl (by decide) (f_176 (d := d + 1) (kind := 5) (place := v37) hT hI (by omega)) (kV (fun M39 hI39 fr39 v38p => ?_))
    have hFm39 := hFm.call fr39 rfl
    have tr40 := (fr39 63 3 rfl)
    have tr41 := (fr39 63 4 rfl)
    have tr42 := (fr39 63 5 rfl)
    have tr43 := (fr39 63 35 rfl)
    have tr44 := (fr39 63 42 rfl)
    have tr45 := (fr39 63 43 rfl)
    have tr46 := (fr39 63 45 rfl)
    have tr47 := rg_63_9 hI39
    refine s_aload_n kx_194_18 rfl ?_
    refine r_getI (k := 63) (f := 9) kx_194_19 kp_194_39 (tk_63 hT) kf_12_9 (fun _ => rfl) (rg_63_9 hI39) (fun v48 v48e v48a v48b => ?_)
    refine s_if_le (t := 26) kx_194_22 (by decide) (fun hc49 => ?_) (fun hc49 => ?_)
    · exact absurd h639 (by omega)
    · have hk50 : M39 63 4 = v37 := ((fr39 63 4 rfl).trans v37e)
      have hk51 : M39 63 9 = v48 := v48e
      exact s_vret kx_194_25 kq_194 ⟨_, rfl, rfl, hI39, hFm39, ⟨(LXp.fr hX fr39 rfl), (by omega), (by omega), (Or.inl (by omega)), (Or.inl (yop_b (x := v37) hY hn (by omega) (by omega) (by omega)))⟩⟩
theorem f_195 {xs : Nat → Int} {Ln d : Nat} {T : List cK} {M : cM} (hT : TT T) (hI : Rng M) {kind : Int} : cC k_P xs Ln (d + 0) 195 [(0, kind)] (T, M) (qF T M 0 (fun v => (v = 1 ∧ (kind = 1 ∨ kind = 5 ∨ kind = 6)) ∨ (v = 0 ∧ kind ≠ 1 ∧ kind ≠ 5 ∧ kind ≠ 6))) := by
  show cP k_P xs Ln (d + 0) 195 0 [(0, (0, kind))] [] (T, M) _
  refine s_iload_n kx_195_0 rfl ?_
  refine s_iconst (v := 1) kx_195_1 (by decide) ?_
  refine s_icmp_eq (t := 16) kx_195_2 (by decide) (fun hc1 => ?_) (fun hc1 => ?_)
  · refine s_iconst (v := 1) kx_195_16 (by decide) ?_
    refine s_goto (t := 21) kx_195_17 (by decide) ?_
    exact s_iret kx_195_21 (Or.inr ⟨kq_195, by omega⟩) ⟨_, rfl, rfl, (by omega)⟩
  · refine s_iload_n kx_195_5 rfl ?_
    refine s_iconst (v := 5) kx_195_6 (by decide) ?_
    refine s_icmp_eq (t := 16) kx_195_7 (by decide) (fun hc2 => ?_) (fun hc2 => ?_)
    · refine s_iconst (v := 1) kx_195_16 (by decide) ?_
      refine s_goto (t := 21) kx_195_17 (by decide) ?_
      exact s_iret kx_195_21 (Or.inr ⟨kq_195, by omega⟩) ⟨_, rfl, rfl, (by omega)⟩
    · refine s_iload_n kx_195_10 rfl ?_
      refine s_bipush (v := 6) kx_195_11 (by decide) ?_
      refine s_icmp_ne (t := 20) kx_195_13 (by decide) (fun hc3 => ?_) (fun hc3 => ?_)
      · refine s_iconst (v := 0) kx_195_20 (by decide) ?_
        exact s_iret kx_195_21 (Or.inr ⟨kq_195, by omega⟩) ⟨_, rfl, rfl, (by omega)⟩
      · refine s_iconst (v := 1) kx_195_16 (by decide) ?_
        refine s_goto (t := 21) kx_195_17 (by decide) ?_
        exact s_iret kx_195_21 (Or.inr ⟨kq_195, by omega⟩) ⟨_, rfl, rfl, (by omega)⟩
