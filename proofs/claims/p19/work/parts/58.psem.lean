/-- a number has four digits at most -/
theorem owV_n {s : Nat → Int} {n p : Int} (h : owK s n p = 3) : 0 ≤ owV s n p ∧ owV s n p ≤ 1000000 := by
  have h1 := owKw_rng (s := s) (n := n) (b := owB s n p)
  unfold owK at h
  split at h
  · omega
  next hb =>
    split at h
    next hl =>
      split at h
      · omega
      · split at h
        · omega
        next hnl =>
          have hd : owDg (s (owB s n p).toNat) := hl.resolve_left hnl
          unfold owKn at h
          split at h
          · omega
          next h4 =>
            unfold owV
            rw [if_neg hnl, if_pos hd]
            unfold owVn
            have hi := owEn_in (s := s) (n := n) (b := owB s n p) (by omega) hd
            have hu : ∀ i : Nat, (i : Int) < owEn s n (owB s n p) - owB s n p → 48 ≤ owS s (owB s n p) i ∧ owS s (owB s n p) i ≤ 57 := fun i hi => by
              have := owR_in (q := owd) (s := s) (n := n) (p := owB s n p) (i := owB s n p + (i : Int)) (by omega) (by unfold owEn at hi; omega)
              exact owd_t.mp this
            generalize owS s (owB s n p) = u at hu
            obtain ⟨k, hk⟩ : ∃ k : Nat, owEn s n (owB s n p) - owB s n p = (k : Int) := ⟨(owEn s n (owB s n p) - owB s n p).toNat, by omega⟩
            rw [hk] at hu h4 ⊢
            rw [show ((k : Int)).toNat = k by omega]
            have e0 : owPn u 0 = 0 := rfl
            have e1 : owPn u 1 = 10 * owPn u 0 + (u 0 - 48) := rfl
            have e2 : owPn u 2 = 10 * owPn u 1 + (u 1 - 48) := rfl
            have e3 : owPn u 3 = 10 * owPn u 2 + (u 2 - 48) := rfl
            have e4 : owPn u 4 = 10 * owPn u 3 + (u 3 - 48) := rfl
            have hk4 : k = 0 ∨ k = 1 ∨ k = 2 ∨ k = 3 ∨ k = 4 := by omega
            rcases hk4 with rfl | rfl | rfl | rfl | rfl
            · omega
            · have := hu 0 (by omega)
              omega
            · have := hu 0 (by omega)
              have := hu 1 (by omega)
              omega
            · have := hu 0 (by omega)
              have := hu 1 (by omega)
              have := hu 2 (by omega)
              omega
            · have := hu 0 (by omega)
              have := hu 1 (by omega)
              have := hu 2 (by omega)
              have := hu 3 (by omega)
              omega
    · omega
/-! what the class's readers of sums say: from any frame the small machine comes through, or tells the same fault -/
section SEM
variable (s : Nat → Int) (n : Int)
abbrev nfp (p : Int) : Prop := owW s n p 486146048 = 0 ∧ owG s n p 91 = 0 ∧ owW s n p 46530560 = 0
def PtOk (o p : Int) (c : List Int) (q : Int) : Prop := TN (36 - 5 * o) c ∧ ∀ (k ph bg pr : Int) (ops : List Int) (fs : List pF) (cs : List Int), pOp ((k, ph, bg, pr, ops) :: fs) = o → (pT k → bg = 1 → nfp s n p) → pGt s n (0, (k, ph, bg, pr, ops) :: fs, cs, p) (1, (k, ph, 0, pr, ops) :: fs, c ++ cs, q)
def PtX (o p f : Int) : Prop := ∀ (k ph bg pr : Int) (ops : List Int) (fs : List pF) (cs : List Int), pOp ((k, ph, bg, pr, ops) :: fs) = o → (pT k → bg = 1 → nfp s n p) → pHf s n (0, (k, ph, bg, pr, ops) :: fs, cs, p) f
def LvOk (l o p : Int) (c : List Int) (q : Int) : Prop := TN (43 - l - 5 * o) c ∧ ∀ (k ph bg pr : Int) (ops : List Int) (fs : List pF) (cs : List Int), pOp ((k, ph, bg, pr, ops) :: fs) = o → ph < 2 → (pT k → bg = 1 → nfp s n p) → (∀ x ∈ ops, rk x < l) → ∃ pd c0, (∀ x ∈ pd, l ≤ rk x) ∧ c = owEm pd ++ c0 ∧ pGt s n (0, (k, ph, bg, pr, ops) :: fs, cs, p) (1, (k, ph, 0, pr, pd ++ ops) :: fs, c0 ++ cs, q)
def LvX (l o p f : Int) : Prop := ∀ (k ph bg pr : Int) (ops : List Int) (fs : List pF) (cs : List Int), pOp ((k, ph, bg, pr, ops) :: fs) = o → ph < 2 → (pT k → bg = 1 → nfp s n p) → (∀ x ∈ ops, rk x < l) → pHf s n (0, (k, ph, bg, pr, ops) :: fs, cs, p) f
def TlOk (l o p : Int) (c : List Int) (q : Int) : Prop := TF (42 - l - 5 * o) c ∧ ∀ (k pr : Int) (ops : List Int) (fs : List pF) (cs : List Int), pT k → pOp ((k, 0, 1, pr, ops) :: fs) = o → (∀ x ∈ ops, rk x < l ∨ (l = 3 ∧ rk x = 3)) → ∃ pd c0 ph, (∀ x ∈ pd, l ≤ rk x) ∧ c = owEm pd ++ c0 ∧ (ph = 2 ∨ (ph = 1 ∧ owAo s n q = 0)) ∧ pGt s n (0, (k, 0, 1, pr, ops) :: fs, cs, p) (1, (k, ph, 0, pr, pd ++ ops) :: fs, c0 ++ cs, q)
def TlX (l o p f : Int) : Prop := ∀ (k pr : Int) (ops : List Int) (fs : List pF) (cs : List Int), pT k → pOp ((k, 0, 1, pr, ops) :: fs) = o → (∀ x ∈ ops, rk x < l ∨ (l = 3 ∧ rk x = 3)) → pHf s n (0, (k, 0, 1, pr, ops) :: fs, cs, p) f
end SEM
section SEM2
variable {s : Nat → Int} {n o p q q2 f l : Int} {c c2 : List Int}
theorem owW_K {w : Int} (h : owK s n p ≠ 1) : owW s n p w = 0 := if_neg (fun g => h g.1)
theorem owG_K {w : Int} (h : owK s n p ≠ 4) : owG s n p w = 0 := if_neg (fun g => h g.1)
theorem owG_Kn {w : Int} (h : owG s n p w = 1) : owK s n p = 4 := (owG1 h).1
theorem owW_Kn {w : Int} (h : owW s n p w = 1) : owK s n p = 1 := (owW1 h).1
theorem owMx_K (h : owK s n p ≠ 1) : owMx s n p = 0 := by
  unfold owMx
  rw [if_neg (by rw [owW_K h]; decide), if_neg (by rw [owW_K h]; decide), if_neg (by rw [owW_K h]; decide)]
theorem owMx_W {w : Int} (h : owW s n p w = 1) (h1 : w ≠ 446103552 ∧ w ≠ 438042624 ∧ w ≠ 308281344) : owMx s n p = 0 := by
  unfold owMx
  rw [if_neg (by rw [owW_ne h h1.1]; decide), if_neg (by rw [owW_ne h h1.2.1]; decide), if_neg (by rw [owW_ne h h1.2.2]; decide)]
theorem owMx_1 (h : owMx s n p ≠ 0) : owK s n p = 1 := by
  apply Decidable.byContradiction
  exact fun g => h (owMx_K g)
theorem owMx_rng (h : owMx s n p ≠ 0) : owMx s n p = 15 ∨ owMx s n p = 16 ∨ owMx s n p = 23 := by
  unfold owMx at h ⊢
  (repeat' split) <;> omega
theorem owAo_K (h : owK s n p ≠ 4) : owAo s n p = 0 := by
  unfold owAo
  rw [if_neg (by rw [owG_K h]; decide), if_neg (by rw [owG_K h]; decide), if_neg (by rw [owG_K h]; decide), if_neg (by rw [owG_K h]; decide), if_neg (by rw [owG_K h]; decide)]
theorem owAo_G {w : Int} (h : owG s n p w = 1) (h1 : w ≠ 43 ∧ w ≠ 45 ∧ w ≠ 42 ∧ w ≠ 47 ∧ w ≠ 37) : owAo s n p = 0 := by
  unfold owAo
  rw [if_neg (by rw [owG_ne h h1.1]; decide), if_neg (by rw [owG_ne h h1.2.1]; decide), if_neg (by rw [owG_ne h h1.2.2.1]; decide), if_neg (by rw [owG_ne h h1.2.2.2.1]; decide), if_neg (by rw [owG_ne h h1.2.2.2.2]; decide)]
theorem owAo_rng (h : owAo s n p ≠ 0) : 10 ≤ owAo s n p ∧ owAo s n p ≤ 14 := by
  unfold owAo at h ⊢
  (repeat' split) <;> omega
theorem owAo_4 (h : owAo s n p ≠ 0) : owK s n p = 4 := by
  apply Decidable.byContradiction
  exact fun g => h (owAo_K g)
theorem owCo_rng (h : owCo s n p ≠ 0) : 17 ≤ owCo s n p ∧ owCo s n p ≤ 19 := by
  unfold owCo at h ⊢
  (repeat' split) <;> omega
theorem owCo_K (h : owK s n p ≠ 4) : owCo s n p = 0 := by
  unfold owCo
  rw [if_neg (by rw [owG_K h]; decide), if_neg (by rw [owG_K h]; decide), if_neg (by rw [owG_K h]; decide)]
theorem owCo_4 (h : owCo s n p ≠ 0) : owK s n p = 4 := by
  apply Decidable.byContradiction
  exact fun g => h (owCo_K g)
theorem owCo_Ao (h : owCo s n p ≠ 0) : owAo s n p = 0 := by
  unfold owCo at h
  split at h
  next g => exact owAo_G g (by decide)
  next g =>
    split at h
    next g => exact owAo_G g (by decide)
    next g =>
      split at h
      next g => exact owAo_G g (by decide)
      next g => exact absurd rfl h
theorem owBo_K (h : owK s n p ≠ 1) : owBo s n p = 0 := by
  unfold owBo
  rw [if_neg (by rw [owW_K h]; decide), if_neg (by rw [owW_K h]; decide)]
theorem owBo_1 (h : owBo s n p ≠ 0) : owK s n p = 1 := by
  apply Decidable.byContradiction
  exact fun g => h (owBo_K g)
theorem owBo_rng (h : owBo s n p ≠ 0) : owBo s n p = 20 ∨ owBo s n p = 21 := by
  unfold owBo at h ⊢
  (repeat' split) <;> omega
theorem owCd_K (h : owK s n p ≠ 1) : owCd s n p = 0 := by
  unfold owCd
  rw [if_neg (by rw [owW_K h]; decide), if_neg (by rw [owW_K h]; decide), if_neg (by rw [owW_K h]; decide), if_neg (by rw [owW_K h]; decide), if_neg (by rw [owW_K h]; decide), if_neg (by rw [owW_K h]; decide)]
theorem owCd_1 (h : owCd s n p ≠ 0) : owK s n p = 1 ∧ owMx s n p = 0 := by
  refine ⟨Decidable.byContradiction fun g => h (owCd_K g), ?_⟩
  unfold owCd at h
  split at h
  next g => exact owMx_W g (by decide)
  next =>
    split at h
    next g => exact owMx_W g (by decide)
    next =>
      split at h
      next g => exact owMx_W g (by decide)
      next =>
        split at h
        next g => exact owMx_W g (by decide)
        next =>
          split at h
          next g => exact owMx_W g (by decide)
          next =>
            split at h
            next g => exact owMx_W g (by decide)
            next => exact absurd rfl h
theorem owU5 (h : owK s n p = 5) : owU s n p = 10000 + owX s n p := by unfold owU; rw [if_pos h]
section STEPS
variable {k ph bg pr m : Int} {ops : List Int} {fs : List pF} {cs : List Int}
theorem pOd_e (h5 : owK s n p ≠ 5) (hf : pT k → bg = 1 → nfp s n p) : pSt s n (0, (k, ph, bg, pr, ops) :: fs, cs, p) = pOe s n k ph bg pr ops fs cs p := by
  show (if (0 : Int) = 0 then pOd s n k ph bg pr ops fs cs p else pGo s n k ph bg pr ops fs cs p) = _
  rw [if_pos rfl]
  unfold pOd
  rw [if_neg h5, if_neg (fun g => by have := hf g.1.1 g.1.2; omega), if_neg (fun g => by have := hf g.1.1 g.1.2; omega), if_neg (fun g => by have := hf g.1.1 g.1.2; omega)]
theorem pOd_5 (h5 : owK s n p = 5) : pSt s n (0, (k, ph, bg, pr, ops) :: fs, cs, p) = .inr (owU s n p, p, cs) := by
  show (if (0 : Int) = 0 then pOd s n k ph bg pr ops fs cs p else pGo s n k ph bg pr ops fs cs p) = _
  rw [if_pos rfl]
  unfold pOd
  rw [if_pos h5]
theorem pGo_s : pSt s n (1, (k, ph, bg, pr, ops) :: fs, cs, p) = pGo s n k ph bg pr ops fs cs p := by
  show (if (1 : Int) = 0 then pOd s n k ph bg pr ops fs cs p else pGo s n k ph bg pr ops fs cs p) = _
  rw [if_neg (by decide)]
end STEPS
theorem pt_num (h : owK s n p = 3) (hv : 0 ≤ owV s n p ∧ owV s n p ≤ 1000000) (ho7 : o ≤ 7) : PtOk s n o p [owV s n p] (owE s n p) := by
  refine ⟨TN.num hv (by omega), ?_⟩
  intro k ph bg pr ops fs cs _ hf
  refine pGt.step ?_
  rw [pOd_e (by omega) hf]
  unfold pOe
  rw [if_neg (by rw [owG_K (by omega)]; decide), if_neg (fun g => g (owMx_K (by omega))), if_pos h]
  rfl
theorem owCd_rng (h : owCd s n p ≠ 0) : -6 ≤ owCd s n p ∧ owCd s n p ≤ -1 := by
  unfold owCd at h ⊢
  (repeat' split) <;> (repeat' split at h) <;> omega
theorem pt_wrd (h : owCd s n p ≠ 0) (ho7 : o ≤ 7) : PtOk s n o p [owCd s n p] (owE s n p) := by
  refine ⟨TN.giv (owCd_rng h) (by omega), ?_⟩
  intro k ph bg pr ops fs cs _ hf
  have h1 := owCd_1 h
  refine pGt.step ?_
  rw [pOd_e (by omega) hf]
  unfold pOe
  rw [if_neg (by rw [owG_K (by omega)]; decide), if_neg (fun g => g h1.2), if_neg (by omega), if_pos h]
  rfl
theorem pt_x0 (h1 : owG s n p 40 = 0) (h2 : owMx s n p = 0) (h3 : owK s n p ≠ 3) (h4 : owCd s n p = 0) : PtX s n o p (owU s n p) := by
  intro k ph bg pr ops fs cs _ hf
  by_cases h5 : owK s n p = 5
  · exact ⟨_, _, pHl.step (pOd_5 h5)⟩
  · refine ⟨_, _, pHl.step (r := (owU s n p, p, cs)) ?_⟩
    rw [pOd_e h5 hf]
    unfold pOe
    rw [if_neg (by omega), if_neg (fun g => g h2), if_neg h3, if_neg (fun g => g h4)]
/-- a bracket is opened -/
theorem pt_open {k ph bg pr : Int} {ops : List Int} {fs : List pF} {cs : List Int} (h : owG s n p 40 = 1) (ho : pOp ((k, ph, bg, pr, ops) :: fs) = o) (h7 : o ≠ 7) (hf : pT k → bg = 1 → nfp s n p) : pGt s n (0, (k, ph, bg, pr, ops) :: fs, cs, p) (0, (2, 0, 1, 0, []) :: (k, ph, 0, pr, ops) :: fs, cs, owE s n p) := by
  refine pGt.step ?_
  rw [pOd_e (by rw [owG_Kn h]; decide) hf]
  unfold pOe
  rw [if_pos h, if_neg (by omega)]
theorem pt_x5 (h : owG s n p 40 = 1) (h7 : o = 7) : PtX s n o p (50000 + owB s n p) := by
  intro k ph bg pr ops fs cs ho hf
  refine ⟨_, _, pHl.step (r := (50000 + owB s n p, p, cs)) ?_⟩
  rw [pOd_e (by rw [owG_Kn h]; decide) hf]
  unfold pOe
  rw [if_pos h, if_pos (by omega)]
theorem pOp_push {k ph bg pr a b d e bg' : Int} {ops : List Int} {fs : List pF} : pOp ((a, b, d, e, []) :: (k, ph, bg', pr, ops) :: fs) = pOp ((k, ph, bg, pr, ops) :: fs) + 1 := by
  rw [pOp_cons, pOp_cons, List.length_cons]
  show ((fs.length + 1 : Nat) : Int) + ((0 : Nat) : Int) + ((nots ops + sumN fs : Nat) : Int) = _
  omega
theorem nT {k : Int} (h : k = 2 ∨ k = 3 ∨ k = 4 ∨ k = 0) : ¬ pT k := by
  intro g
  omega
/-- it is closed, or something else stands there -/
theorem go_close {k ph bg pr : Int} {pd ops : List Int} {fs : List pF} {cs : List Int} {bg2 e : Int} (h : owG s n q 41 = 1) : pGt s n (1, (2, 0, bg2, e, pd) :: (k, ph, bg, pr, ops) :: fs, cs, q) (1, (k, ph, bg, pr, ops) :: fs, owEm pd ++ cs, owE s n q) := by
  refine pGt.step ?_
  rw [pGo_s]
  unfold pGo
  rw [if_neg (by rw [owG_Kn h]; decide), if_neg (fun g => g.2 (owAo_G h (by decide))), if_neg (fun g => nT (by omega) g.1.1), if_neg (fun g => nT (by omega) g.1), if_neg (fun g => nT (by omega) g.1), if_neg (by decide), if_neg (by decide), if_neg (by rw [if_neg (by decide)]; omega), pJ_all]
  rfl
theorem go_unx {k ph bg pr : Int} {ops : List Int} {fs : List pF} {cs : List Int} (hk : k = 2 ∨ k = 4) (ha : owAo s n q = 0) (h : owG s n q 41 = 0) : pHf s n (1, (k, ph, bg, pr, ops) :: fs, cs, q) (owU s n q) := by
  refine ⟨_, _, pHl.step (r := (owU s n q, q, cs)) ?_⟩
  rw [pGo_s]
  unfold pGo
  by_cases h5 : owK s n q = 5
  · rw [if_pos h5]
  · rw [if_neg h5, if_neg (fun g => g.2 ha), if_neg (fun g => nT (by omega) g.1.1), if_neg (fun g => nT (by omega) g.1), if_neg (fun g => nT (by omega) g.1), if_neg (by omega), if_neg (by omega), if_pos (by rw [if_neg (by omega)]; exact h)]
theorem pt_par (h : owG s n p 40 = 1) (h7 : o ≠ 7) (hs : LvOk s n 5 (o + 1) (owE s n p) c q) (hc : owG s n q 41 = 1) : PtOk s n o p c (owE s n q) := by
  refine ⟨hs.1.le (by omega), ?_⟩
  intro k ph bg pr ops fs cs ho hf
  refine (pt_open h ho h7 hf).trans ?_
  obtain ⟨pd, c0, h1, h2, h3⟩ := hs.2 2 0 1 0 [] ((k, ph, 0, pr, ops) :: fs) cs (by rw [pOp_push (bg := bg)]; omega) (by decide) (fun g => absurd g (nT (by omega))) (fun x hx => by cases hx)
  refine h3.trans ?_
  rw [h2, List.append_assoc, List.append_nil]
  exact go_close hc
theorem pt_xs (h : owG s n p 40 = 1) (h7 : o ≠ 7) (hs : LvX s n 5 (o + 1) (owE s n p) f) : PtX s n o p f := by
  intro k ph bg pr ops fs cs ho hf
  exact pHf.of (pt_open h ho h7 hf) (hs 2 0 1 0 [] ((k, ph, 0, pr, ops) :: fs) cs (by rw [pOp_push (bg := bg)]; omega) (by decide) (fun g => absurd g (nT (by omega))) (fun x hx => by cases hx))
theorem pt_xc (h : owG s n p 40 = 1) (h7 : o ≠ 7) (hs : LvOk s n 5 (o + 1) (owE s n p) c q) (ha : owAo s n q = 0) (hc : owG s n q 41 = 0) : PtX s n o p (owU s n q) := by
  intro k ph bg pr ops fs cs ho hf
  obtain ⟨pd, c0, h1, h2, h3⟩ := hs.2 2 0 1 0 [] ((k, ph, 0, pr, ops) :: fs) cs (by rw [pOp_push (bg := bg)]; omega) (by decide) (fun g => absurd g (nT (by omega))) (fun x hx => by cases hx)
  exact pHf.of ((pt_open h ho h7 hf).trans h3) (go_unx (Or.inl rfl) ha hc)
/-- min, max, if: the bracket behind -/
theorem mx_open {k ph bg pr : Int} {ops : List Int} {fs : List pF} {cs : List Int} (h : owMx s n p ≠ 0) (hg : owG s n (owE s n p) 40 = 1) (ho : pOp ((k, ph, bg, pr, ops) :: fs) = o) (h7 : o ≠ 7) (hf : pT k → bg = 1 → nfp s n p) : pGt s n (0, (k, ph, bg, pr, ops) :: fs, cs, p) (0, (if owMx s n p = 23 then 6 else 3, 0, 1, owMx s n p, []) :: (k, ph, 0, pr, ops) :: fs, cs, owE s n (owE s n p)) := by
  have h1 := owMx_1 h
  refine pGt.step ?_
  rw [pOd_e (by omega) hf]
  unfold pOe
  rw [if_neg (by rw [owG_K (by omega)]; decide), if_pos h, if_neg (by omega), if_neg (by omega)]
theorem mx_x1 (h : owMx s n p ≠ 0) (hg : owG s n (owE s n p) 40 = 0) : PtX s n o p (owU s n (owE s n p)) := by
  intro k ph bg pr ops fs cs ho hf
  have h1 := owMx_1 h
  refine ⟨_, _, pHl.step (r := (owU s n (owE s n p), p, cs)) ?_⟩
  rw [pOd_e (by omega) hf]
  unfold pOe
  rw [if_neg (by rw [owG_K (by omega)]; decide), if_pos h, if_pos hg]
theorem mx_x5 (h : owMx s n p ≠ 0) (hg : owG s n (owE s n p) 40 = 1) (h7 : o = 7) : PtX s n o p (50000 + owB s n (owE s n p)) := by
  intro k ph bg pr ops fs cs ho hf
  have h1 := owMx_1 h
  refine ⟨_, _, pHl.step (r := (50000 + owB s n (owE s n p), p, cs)) ?_⟩
  rw [pOd_e (by omega) hf]
  unfold pOe
  rw [if_neg (by rw [owG_K (by omega)]; decide), if_pos h, if_neg (by omega), if_pos (by omega)]
section FRM
variable {k ph bg pr m b2 : Int} {ops : List Int} {fs : List pF} {cs : List Int}
theorem go_comma {kk b : Int} {pd : List Int} (hk : kk = 3 ∨ kk = 6) (hp : ph = 0 → kk = 3) (h : owG s n q 44 = 1) : pGt s n (1, (kk, ph, b, m, pd) :: fs, cs, q) (0, (if kk = 3 then 4 else 3, 0, b, m, []) :: fs, owEm pd ++ cs, owE s n q) := by
  refine pGt.step ?_
  rw [pGo_s]
  unfold pGo
  have hb : owBo s n q = 0 := owBo_K (by rw [owG_Kn h]; decide)
  rw [if_neg (by rw [owG_Kn h]; decide), if_neg (fun g => g.2 (owAo_G h (by decide))), if_neg (fun g => by have := hp g.1.2; have := g.1.1; omega), if_neg (fun g => g.2 hb), if_neg (fun g => by have := hp g.2; have := g.1; omega), if_neg (by omega), if_pos hk, if_neg (by omega), pJ_all]
theorem go_ncomma {kk b : Int} {pd : List Int} (hk : kk = 3 ∨ (kk = 6 ∧ owBo s n q = 0)) (ha : ph < 2 → owAo s n q = 0) (hp : ph = 0 → kk = 3) (h : owG s n q 44 = 0) : pHf s n (1, (kk, ph, b, m, pd) :: fs, cs, q) (owU s n q) := by
  refine ⟨_, _, pHl.step (r := (owU s n q, q, cs)) ?_⟩
  rw [pGo_s]
  unfold pGo
  by_cases h5 : owK s n q = 5
  · rw [if_pos h5]
  · rw [if_neg h5, if_neg (fun g => g.2 (ha g.1)), if_neg (fun g => by have := hp g.1.2; have := g.1.1; omega), if_neg (fun g => by have := g.1; omega), if_neg (fun g => by have := hp g.2; have := g.1; omega), if_neg (by omega), if_pos (by omega), if_pos h]
theorem go_end4 {b : Int} {pd : List Int} (h : owG s n q 41 = 1) : pGt s n (1, (4, 0, b, m, pd) :: (k, ph, bg, pr, ops) :: fs, cs, q) (1, (k, ph, bg, pr, ops) :: fs, (3 - m) :: (owEm pd ++ cs), owE s n q) := by
  refine pGt.step ?_
  rw [pGo_s]
  unfold pGo
  rw [if_neg (by rw [owG_Kn h]; decide), if_neg (fun g => g.2 (owAo_G h (by decide))), if_neg (fun g => nT (by omega) g.1.1), if_neg (fun g => nT (by omega) g.1), if_neg (fun g => nT (by omega) g.1), if_neg (by decide), if_neg (by decide), if_neg (by rw [if_neg (by decide)]; omega), pJ_all]
  rfl
theorem st4_ok (hs : LvOk s n 5 (o + 1) p c q) (hc : owG s n q 41 = 1) (ho : pOp ((k, ph, 0, pr, ops) :: fs) = o) : pGt s n (0, (4, 0, b2, m, []) :: (k, ph, 0, pr, ops) :: fs, cs, p) (1, (k, ph, 0, pr, ops) :: fs, (3 - m) :: (c ++ cs), owE s n q) := by
  obtain ⟨pd, c0, h1, h2, h3⟩ := hs.2 4 0 b2 m [] ((k, ph, 0, pr, ops) :: fs) cs (by rw [pOp_push (bg := 0)]; omega) (by decide) (fun g => absurd g (nT (by omega))) (fun x hx => by cases hx)
  refine h3.trans ?_
  rw [h2, List.append_assoc, List.append_nil]
  exact go_end4 hc
theorem st4_x (hs : LvX s n 5 (o + 1) p f) (ho : pOp ((k, ph, 0, pr, ops) :: fs) = o) : pHf s n (0, (4, 0, b2, m, []) :: (k, ph, 0, pr, ops) :: fs, cs, p) f :=
  hs 4 0 b2 m [] ((k, ph, 0, pr, ops) :: fs) cs (by rw [pOp_push (bg := 0)]; omega) (by decide) (fun g => absurd g (nT (by omega))) (fun x hx => by cases hx)
theorem st4_xc (hs : LvOk s n 5 (o + 1) p c q) (ha : owAo s n q = 0) (hc : owG s n q 41 = 0) (ho : pOp ((k, ph, 0, pr, ops) :: fs) = o) : pHf s n (0, (4, 0, b2, m, []) :: (k, ph, 0, pr, ops) :: fs, cs, p) (owU s n q) := by
  obtain ⟨pd, c0, h1, h2, h3⟩ := hs.2 4 0 b2 m [] ((k, ph, 0, pr, ops) :: fs) cs (by rw [pOp_push (bg := 0)]; omega) (by decide) (fun g => absurd g (nT (by omega))) (fun x hx => by cases hx)
  exact pHf.of h3 (go_unx (Or.inr rfl) ha hc)
theorem st3_ok (hs : LvOk s n 5 (o + 1) p c q) (hc : owG s n q 44 = 1) (ho : pOp ((k, ph, 0, pr, ops) :: fs) = o) : pGt s n (0, (3, 0, b2, m, []) :: (k, ph, 0, pr, ops) :: fs, cs, p) (0, (4, 0, 0, m, []) :: (k, ph, 0, pr, ops) :: fs, c ++ cs, owE s n q) := by
  obtain ⟨pd, c0, h1, h2, h3⟩ := hs.2 3 0 b2 m [] ((k, ph, 0, pr, ops) :: fs) cs (by rw [pOp_push (bg := 0)]; omega) (by decide) (fun g => absurd g (nT (by omega))) (fun x hx => by cases hx)
  refine h3.trans ?_
  rw [h2, List.append_assoc, List.append_nil]
  exact go_comma (Or.inl rfl) (fun _ => rfl) hc
theorem st3_x (hs : LvX s n 5 (o + 1) p f) (ho : pOp ((k, ph, 0, pr, ops) :: fs) = o) : pHf s n (0, (3, 0, b2, m, []) :: (k, ph, 0, pr, ops) :: fs, cs, p) f :=
  hs 3 0 b2 m [] ((k, ph, 0, pr, ops) :: fs) cs (by rw [pOp_push (bg := 0)]; omega) (by decide) (fun g => absurd g (nT (by omega))) (fun x hx => by cases hx)
theorem st3_xc (hs : LvOk s n 5 (o + 1) p c q) (ha : owAo s n q = 0) (hc : owG s n q 44 = 0) (ho : pOp ((k, ph, 0, pr, ops) :: fs) = o) : pHf s n (0, (3, 0, b2, m, []) :: (k, ph, 0, pr, ops) :: fs, cs, p) (owU s n q) := by
  obtain ⟨pd, c0, h1, h2, h3⟩ := hs.2 3 0 b2 m [] ((k, ph, 0, pr, ops) :: fs) cs (by rw [pOp_push (bg := 0)]; omega) (by decide) (fun g => absurd g (nT (by omega))) (fun x hx => by cases hx)
  exact pHf.of h3 (go_ncomma (Or.inl rfl) (fun _ => ha) (fun _ => rfl) hc)
theorem st6_ok (hs : TlOk s n 1 (o + 1) p c q) (hc : owG s n q 44 = 1) (ho : pOp ((k, ph, 0, pr, ops) :: fs) = o) : pGt s n (0, (6, 0, 1, m, []) :: (k, ph, 0, pr, ops) :: fs, cs, p) (0, (3, 0, 0, m, []) :: (k, ph, 0, pr, ops) :: fs, c ++ cs, owE s n q) := by
  obtain ⟨pd, c0, ph', h1, h2, h4, h3⟩ := hs.2 6 m [] ((k, ph, 0, pr, ops) :: fs) cs (by decide) (by rw [pOp_push (bg := 0)]; omega) (fun x hx => by cases hx)
  refine h3.trans ?_
  rw [h2, List.append_assoc, List.append_nil]
  exact go_comma (Or.inr rfl) (fun g => by omega) hc
theorem st6_x (hs : TlX s n 1 (o + 1) p f) (ho : pOp ((k, ph, 0, pr, ops) :: fs) = o) : pHf s n (0, (6, 0, 1, m, []) :: (k, ph, 0, pr, ops) :: fs, cs, p) f :=
  hs 6 m [] ((k, ph, 0, pr, ops) :: fs) cs (by decide) (by rw [pOp_push (bg := 0)]; omega) (fun x hx => by cases hx)
theorem st6_xc (hs : TlOk s n 1 (o + 1) p c q) (hb : owBo s n q = 0) (hc : owG s n q 44 = 0) (ho : pOp ((k, ph, 0, pr, ops) :: fs) = o) : pHf s n (0, (6, 0, 1, m, []) :: (k, ph, 0, pr, ops) :: fs, cs, p) (owU s n q) := by
  obtain ⟨pd, c0, ph', h1, h2, h4, h3⟩ := hs.2 6 m [] ((k, ph, 0, pr, ops) :: fs) cs (by decide) (by rw [pOp_push (bg := 0)]; omega) (fun x hx => by cases hx)
  exact pHf.of h3 (go_ncomma (Or.inr ⟨rfl, hb⟩) (fun g => by omega) (fun g => by omega) hc)
end FRM
theorem pOp_bg {k ph bg pr ph' bg' : Int} {ops : List Int} {fs : List pF} : pOp ((k, ph', bg', pr, ops) :: fs) = pOp ((k, ph, bg, pr, ops) :: fs) := by rw [pOp_cons, pOp_cons]
section MM
variable {c1 c3 : List Int} {q1 q3 : Int}
theorem mm_ok (h : owMx s n p ≠ 0) (h23 : owMx s n p ≠ 23) (hg : owG s n (owE s n p) 40 = 1) (h7 : o ≠ 7) (s1 : LvOk s n 5 (o + 1) (owE s n (owE s n p)) c1 q1) (k1 : owG s n q1 44 = 1) (s2 : LvOk s n 5 (o + 1) (owE s n q1) c2 q2) (k2 : owG s n q2 41 = 1) : PtOk s n o p ((3 - owMx s n p) :: (c2 ++ c1)) (owE s n q2) := by
  refine ⟨s1.1.two s2.1 (by omega) (by omega) (by have := owMx_rng h; omega), ?_⟩
  intro k ph bg pr ops fs cs ho hf
  have ho' : pOp ((k, ph, 0, pr, ops) :: fs) = o := by rw [pOp_bg (bg := bg) (ph := ph)]; exact ho
  have h1 := mx_open (cs := cs) h hg ho h7 hf
  rw [if_neg h23] at h1
  have h2 := (h1.trans (st3_ok s1 k1 ho')).trans (st4_ok s2 k2 ho')
  rw [← List.append_assoc] at h2
  exact h2
theorem mm_x (h : owMx s n p ≠ 0) (h23 : owMx s n p ≠ 23) (hg : owG s n (owE s n p) 40 = 1) (h7 : o ≠ 7) (hx : LvX s n 5 (o + 1) (owE s n (owE s n p)) f ∨ (∃ c1 q1, LvOk s n 5 (o + 1) (owE s n (owE s n p)) c1 q1 ∧ ((owAo s n q1 = 0 ∧ owG s n q1 44 = 0 ∧ f = owU s n q1) ∨ (owG s n q1 44 = 1 ∧ (LvX s n 5 (o + 1) (owE s n q1) f ∨ ∃ c2 q2, LvOk s n 5 (o + 1) (owE s n q1) c2 q2 ∧ owAo s n q2 = 0 ∧ owG s n q2 41 = 0 ∧ f = owU s n q2))))) : PtX s n o p f := by
  intro k ph bg pr ops fs cs ho hf
  have ho' : pOp ((k, ph, 0, pr, ops) :: fs) = o := by rw [pOp_bg (bg := bg) (ph := ph)]; exact ho
  have h1 := mx_open (cs := cs) h hg ho h7 hf
  rw [if_neg h23] at h1
  rcases hx with hx | ⟨c1, q1, s1, ⟨a1, a2, rfl⟩ | ⟨a1, hx | ⟨c2, q2, s2, b1, b2, rfl⟩⟩⟩
  · exact pHf.of h1 (st3_x hx ho')
  · exact pHf.of h1 (st3_xc s1 a1 a2 ho')
  · exact pHf.of (h1.trans (st3_ok s1 a1 ho')) (st4_x hx ho')
  · exact pHf.of (h1.trans (st3_ok s1 a1 ho')) (st4_xc s2 b1 b2 ho')
theorem wh_ok (h23 : owMx s n p = 23) (hg : owG s n (owE s n p) 40 = 1) (h7 : o ≠ 7) (s1 : TlOk s n 1 (o + 1) (owE s n (owE s n p)) c1 q1) (k1 : owG s n q1 44 = 1) (s2 : LvOk s n 5 (o + 1) (owE s n q1) c2 q2) (k2 : owG s n q2 44 = 1) (s3 : LvOk s n 5 (o + 1) (owE s n q2) c3 q3) (k3 : owG s n q3 41 = 1) : PtOk s n o p (-20 :: (c3 ++ (c2 ++ c1))) (owE s n q3) := by
  refine ⟨TN.ite s1.1 s2.1 s3.1 (by omega) (by omega) (by omega), ?_⟩
  intro k ph bg pr ops fs cs ho hf
  have ho' : pOp ((k, ph, 0, pr, ops) :: fs) = o := by rw [pOp_bg (bg := bg) (ph := ph)]; exact ho
  have h1 := mx_open (cs := cs) (by omega) hg ho h7 hf
  rw [if_pos h23, h23] at h1
  have h2 := ((h1.trans (st6_ok s1 k1 ho')).trans (st3_ok s2 k2 ho')).trans (st4_ok s3 k3 ho')
  rw [← List.append_assoc, ← List.append_assoc] at h2
  rw [← List.append_assoc]
  exact h2
theorem wh_x (h23 : owMx s n p = 23) (hg : owG s n (owE s n p) 40 = 1) (h7 : o ≠ 7) (hx : TlX s n 1 (o + 1) (owE s n (owE s n p)) f ∨ (∃ c1 q1, TlOk s n 1 (o + 1) (owE s n (owE s n p)) c1 q1 ∧ ((owBo s n q1 = 0 ∧ owG s n q1 44 = 0 ∧ f = owU s n q1) ∨ (owG s n q1 44 = 1 ∧ (LvX s n 5 (o + 1) (owE s n q1) f ∨ ∃ c2 q2, LvOk s n 5 (o + 1) (owE s n q1) c2 q2 ∧ ((owAo s n q2 = 0 ∧ owG s n q2 44 = 0 ∧ f = owU s n q2) ∨ (owG s n q2 44 = 1 ∧ (LvX s n 5 (o + 1) (owE s n q2) f ∨ ∃ c3 q3, LvOk s n 5 (o + 1) (owE s n q2) c3 q3 ∧ owAo s n q3 = 0 ∧ owG s n q3 41 = 0 ∧ f = owU s n q3)))))))) : PtX s n o p f := by
  intro k ph bg pr ops fs cs ho hf
  have ho' : pOp ((k, ph, 0, pr, ops) :: fs) = o := by rw [pOp_bg (bg := bg) (ph := ph)]; exact ho
  have h1 := mx_open (cs := cs) (by omega) hg ho h7 hf
  rw [if_pos h23, h23] at h1
  rcases hx with hx | ⟨c1, q1, s1, ⟨a1, a2, rfl⟩ | ⟨a1, hx | ⟨c2, q2, s2, ⟨b1, b2, rfl⟩ | ⟨b1, hx | ⟨c3, q3, s3, d1, d2, rfl⟩⟩⟩⟩⟩
  · exact pHf.of h1 (st6_x hx ho')
  · exact pHf.of h1 (st6_xc s1 a1 a2 ho')
  · exact pHf.of (h1.trans (st6_ok s1 a1 ho')) (st3_x hx ho')
  · exact pHf.of (h1.trans (st6_ok s1 a1 ho')) (st3_xc s2 b1 b2 ho')
  · exact pHf.of ((h1.trans (st6_ok s1 a1 ho')).trans (st3_ok s2 b1 ho')) (st4_x hx ho')
  · exact pHf.of ((h1.trans (st6_ok s1 a1 ho')).trans (st3_ok s2 b1 ho')) (st4_xc s3 d1 d2 ho')
end MM
theorem rk_ao {a : Int} (h : 10 ≤ a ∧ a ≤ 14) : rk a = if a ≤ 11 then 5 else 6 := by
  unfold rk
  (repeat' split) <;> omega
theorem nots_ge {l : Int} {pd : List Int} (hl : 4 ≤ l) (h : ∀ x ∈ pd, l ≤ rk x) : nots pd = 0 := nots_0 pd (fun x hx => by have := h x hx; omega)
/-- products -/
theorem pd_base (h : PtOk s n o p c q) : LvOk s n 6 o p c q := by
  refine ⟨h.1.le (by omega), ?_⟩
  intro k ph bg pr ops fs cs ho _ hf _
  exact ⟨[], c, fun x hx => (by cases hx), rfl, h.2 k ph bg pr ops fs cs ho hf⟩
theorem pd_xb (h : PtX s n o p f) : LvX s n 6 o p f := fun k ph bg pr ops fs cs ho _ hf _ => h k ph bg pr ops fs cs ho hf
theorem go_ao {k ph bg pr : Int} {pd ops : List Int} {fs : List pF} {cs : List Int} (ha : owAo s n q ≠ 0) (hp : ph < 2) (h1 : ∀ x ∈ pd, (if owAo s n q ≤ 11 then 5 else 6) ≤ rk x) (h2 : ∀ x ∈ ops, rk x < (if owAo s n q ≤ 11 then 5 else 6)) : pGt s n (1, (k, ph, bg, pr, pd ++ ops) :: fs, cs, q) (0, (k, ph, bg, pr, owAo s n q :: ops) :: fs, owEm pd ++ cs, owE s n q) := by
  refine pGt.step ?_
  rw [pGo_s]
  unfold pGo
  rw [if_neg (by rw [owAo_4 ha]; decide), if_pos ⟨hp, ha⟩, pJ_app pd ops cs h1 h2]
theorem pd_step (h : LvOk s n 6 o p c q) (ha : 12 ≤ owAo s n q) (h2 : PtOk s n o (owE s n q) c2 q2) : LvOk s n 6 o p ((3 - owAo s n q) :: (c2 ++ c)) q2 := by
  refine ⟨h.1.two h2.1 (by omega) (by omega) (by have := owAo_rng (s := s) (n := n) (p := q) (by omega); omega), ?_⟩
  intro k ph bg pr ops fs cs ho hp hf hr
  obtain ⟨pd, c0, h3, h4, h5⟩ := h.2 k ph bg pr ops fs cs ho hp hf hr
  have hA := owAo_rng (s := s) (n := n) (p := q) (by omega)
  have h6 := go_ao (s := s) (n := n) (q := q) (k := k) (ph := ph) (bg := 0) (pr := pr) (pd := pd) (ops := ops) (fs := fs) (cs := c0 ++ cs) (by omega) hp (by rw [if_neg (by omega)]; exact h3) (by rw [if_neg (by omega)]; exact hr)
  have hk := rk_ao hA
  have h7 := h2.2 k ph 0 pr (owAo s n q :: ops) fs (owEm pd ++ (c0 ++ cs)) (by
    rw [pOp_cons] at ho ⊢
    show (fs.length : Int) + (((if owAo s n q = 22 then 1 else 0) + nots ops : Nat) : Int) + (sumN fs : Int) = o
    rw [if_neg (by omega)]
    omega) (fun _ g => absurd g (by decide))
  refine ⟨[owAo s n q], c2 ++ c, fun x hx => ?_, rfl, ?_⟩
  · rw [List.mem_singleton] at hx
    rw [hx, hk, if_neg (by omega)]
    omega
  · rw [h4]
    have := (h5.trans h6).trans h7
    rw [List.append_assoc, List.append_assoc]
    exact this
theorem pd_xst (h : LvOk s n 6 o p c q) (ha : 12 ≤ owAo s n q) (h2 : PtX s n o (owE s n q) f) : LvX s n 6 o p f := by
  intro k ph bg pr ops fs cs ho hp hf hr
  obtain ⟨pd, c0, h3, h4, h5⟩ := h.2 k ph bg pr ops fs cs ho hp hf hr
  have hA := owAo_rng (s := s) (n := n) (p := q) (by omega)
  have h6 := go_ao (s := s) (n := n) (q := q) (k := k) (ph := ph) (bg := 0) (pr := pr) (pd := pd) (ops := ops) (fs := fs) (cs := c0 ++ cs) (by omega) hp (by rw [if_neg (by omega)]; exact h3) (by rw [if_neg (by omega)]; exact hr)
  exact pHf.of (h5.trans h6) (h2 k ph 0 pr (owAo s n q :: ops) fs _ (by
    rw [pOp_cons] at ho ⊢
    show (fs.length : Int) + (((if owAo s n q = 22 then 1 else 0) + nots ops : Nat) : Int) + (sumN fs : Int) = o
    rw [if_neg (by omega)]
    omega) (fun _ g => absurd g (by decide)))
/-- sums -/
theorem sm_base (h : LvOk s n 6 o p c q) : LvOk s n 5 o p c q := by
  refine ⟨h.1.le (by omega), ?_⟩
  intro k ph bg pr ops fs cs ho hp hf hr
  obtain ⟨pd, c0, h3, h4, h5⟩ := h.2 k ph bg pr ops fs cs ho hp hf (fun x hx => by have := hr x hx; omega)
  exact ⟨pd, c0, fun x hx => by have := h3 x hx; omega, h4, h5⟩
theorem sm_xb (h : LvX s n 6 o p f) : LvX s n 5 o p f := fun k ph bg pr ops fs cs ho hp hf hr => h k ph bg pr ops fs cs ho hp hf (fun x hx => by have := hr x hx; omega)
theorem sm_pre {k ph bg pr : Int} {ops : List Int} {fs : List pF} {cs : List Int} (h : LvOk s n 5 o p c q) (ha : owAo s n q = 10 ∨ owAo s n q = 11) (ho : pOp ((k, ph, bg, pr, ops) :: fs) = o) (hp : ph < 2) (hf : pT k → bg = 1 → nfp s n p) (hr : ∀ x ∈ ops, rk x < 5) : pGt s n (0, (k, ph, bg, pr, ops) :: fs, cs, p) (0, (k, ph, 0, pr, owAo s n q :: ops) :: fs, c ++ cs, owE s n q) ∧ pOp ((k, ph, 0, pr, owAo s n q :: ops) :: fs) = o ∧ (∀ x ∈ owAo s n q :: ops, rk x < 6) := by
  obtain ⟨pd, c0, h3, h4, h5⟩ := h.2 k ph bg pr ops fs cs ho hp hf hr
  have h6 := go_ao (s := s) (n := n) (q := q) (k := k) (ph := ph) (bg := 0) (pr := pr) (pd := pd) (ops := ops) (fs := fs) (cs := c0 ++ cs) (by omega) hp (by rw [if_pos (by omega)]; exact h3) (by rw [if_pos (by omega)]; exact hr)
  refine ⟨?_, ?_, fun x hx => ?_⟩
  · rw [h4, List.append_assoc]
    exact h5.trans h6
  · rw [pOp_cons] at ho ⊢
    show (fs.length : Int) + (((if owAo s n q = 22 then 1 else 0) + nots ops : Nat) : Int) + (sumN fs : Int) = o
    rw [if_neg (by omega)]
    omega
  · rcases List.mem_cons.mp hx with rfl | hx
    · rw [rk_ao (by omega), if_pos (by omega)]; omega
    · have := hr x hx; omega
theorem sm_step (h : LvOk s n 5 o p c q) (ha : owAo s n q = 10 ∨ owAo s n q = 11) (h2 : LvOk s n 6 o (owE s n q) c2 q2) : LvOk s n 5 o p ((3 - owAo s n q) :: (c2 ++ c)) q2 := by
  refine ⟨h.1.two h2.1 (by omega) (by omega) (by omega), ?_⟩
  intro k ph bg pr ops fs cs ho hp hf hr
  obtain ⟨g1, g2, g3⟩ := sm_pre (cs := cs) h ha ho hp hf hr
  obtain ⟨pd, c0, h3, h4, h5⟩ := h2.2 k ph 0 pr (owAo s n q :: ops) fs (c ++ cs) g2 hp (fun _ g => absurd g (by decide)) g3
  refine ⟨pd ++ [owAo s n q], c0 ++ c, fun x hx => ?_, ?_, ?_⟩
  · rcases List.mem_append.mp hx with hx | hx
    · have := h3 x hx; omega
    · rw [List.mem_singleton] at hx
      rw [hx, rk_ao (by omega), if_pos (by omega)]; omega
  · rw [h4, owEm_app, List.append_assoc, List.append_assoc]
    rfl
  · have := g1.trans h5
    rw [List.append_assoc, List.append_assoc]
    exact this
theorem sm_xst (h : LvOk s n 5 o p c q) (ha : owAo s n q = 10 ∨ owAo s n q = 11) (h2 : LvX s n 6 o (owE s n q) f) : LvX s n 5 o p f := by
  intro k ph bg pr ops fs cs ho hp hf hr
  obtain ⟨g1, g2, g3⟩ := sm_pre (cs := cs) h ha ho hp hf hr
  exact pHf.of g1 (h2 k ph 0 pr (owAo s n q :: ops) fs (c ++ cs) g2 hp (fun _ g => absurd g (by decide)) g3)
/-- a fact: compared, denied, in brackets, all -/
theorem ft_all (h : owW s n p 46530560 = 1) (ho7 : o ≤ 7) : TlOk s n 3 o p [1] (owE s n p) := by
  refine ⟨TF.one (by omega), ?_⟩
  intro k pr ops fs cs hk _ _
  refine ⟨[], [1], 2, fun x hx => (by cases hx), rfl, Or.inl rfl, pGt.step ?_⟩
  show (if (0 : Int) = 0 then pOd s n k 0 1 pr ops fs cs p else pGo s n k 0 1 pr ops fs cs p) = _
  rw [if_pos rfl]
  unfold pOd
  rw [if_neg (by rw [owW_Kn h]; decide), if_neg (fun g => by have := owW_ne (d := 486146048) h (by decide); omega), if_neg (fun g => by have := owW_G (c := 91) h; omega), if_pos ⟨⟨hk, rfl⟩, h⟩]
  rfl
theorem od_not {k pr : Int} {ops : List Int} {fs : List pF} {cs : List Int} (hk : pT k) (h : owW s n p 486146048 = 1) : pSt s n (0, (k, 0, 1, pr, ops) :: fs, cs, p) = (if pOp ((k, 0, 1, pr, ops) :: fs) = 7 then .inr (50000 + owB s n p, p, cs) else .inl (0, (k, 0, 1, pr, 22 :: ops) :: fs, cs, owE s n p)) := by
  show (if (0 : Int) = 0 then pOd s n k 0 1 pr ops fs cs p else pGo s n k 0 1 pr ops fs cs p) = _
  rw [if_pos rfl]
  unfold pOd
  rw [if_neg (by rw [owW_Kn h]; decide), if_pos ⟨⟨hk, rfl⟩, h⟩]
theorem od_sq {k pr : Int} {ops : List Int} {fs : List pF} {cs : List Int} (hk : pT k) (h : owG s n p 91 = 1) : pSt s n (0, (k, 0, 1, pr, ops) :: fs, cs, p) = (if pOp ((k, 0, 1, pr, ops) :: fs) = 7 then .inr (50000 + owB s n p, p, cs) else .inl (0, (5, 0, 1, 0, []) :: (k, 0, 0, pr, ops) :: fs, cs, owE s n p)) := by
  show (if (0 : Int) = 0 then pOd s n k 0 1 pr ops fs cs p else pGo s n k 0 1 pr ops fs cs p) = _
  rw [if_pos rfl]
  unfold pOd
  rw [if_neg (by rw [owG_Kn h]; decide), if_neg (fun g => by have := owG_W (w := 486146048) h; omega), if_pos ⟨⟨hk, rfl⟩, h⟩]
theorem pOp_22 {k ph bg pr : Int} {ops : List Int} {fs : List pF} : pOp ((k, ph, bg, pr, 22 :: ops) :: fs) = pOp ((k, ph, bg, pr, ops) :: fs) + 1 := by
  rw [pOp_cons, pOp_cons]
  show (fs.length : Int) + ((1 + nots ops : Nat) : Int) + (sumN fs : Int) = _
  omega
theorem ft_not (h : owW s n p 486146048 = 1) (h7 : o ≠ 7) (h2 : TlOk s n 3 (o + 1) (owE s n p) c q) : TlOk s n 3 o p (-19 :: c) q := by
  refine ⟨h2.1.not (by omega), ?_⟩
  intro k pr ops fs cs hk ho hr
  have h1 : pGt s n (0, (k, 0, 1, pr, ops) :: fs, cs, p) (0, (k, 0, 1, pr, 22 :: ops) :: fs, cs, owE s n p) := pGt.step (by rw [od_not hk h, if_neg (by omega)])
  obtain ⟨pd, c0, ph, h3, h4, h6, h5⟩ := h2.2 k pr (22 :: ops) fs cs hk (by rw [pOp_22]; omega) (fun x hx => by
    rcases List.mem_cons.mp hx with rfl | hx
    · exact Or.inr ⟨rfl, by decide⟩
    · exact hr x hx)
  refine ⟨pd ++ [22], c0, ph, fun x hx => ?_, ?_, h6, ?_⟩
  · rcases List.mem_append.mp hx with hx | hx
    · exact h3 x hx
    · rw [List.mem_singleton] at hx
      rw [hx]; decide
  · rw [h4, owEm_app]
    rfl
  · have := h1.trans h5
    rw [List.append_assoc]
    exact this
theorem ft_not5 (h : owW s n p 486146048 = 1) (h7 : o = 7) : TlX s n 3 o p (50000 + owB s n p) := fun k pr ops fs cs hk ho _ => ⟨p, cs, pHl.step (by rw [od_not hk h, if_pos (by omega)])⟩
theorem ft_notx (h : owW s n p 486146048 = 1) (h7 : o ≠ 7) (h2 : TlX s n 3 (o + 1) (owE s n p) f) : TlX s n 3 o p f := by
  intro k pr ops fs cs hk ho hr
  have h1 : pGt s n (0, (k, 0, 1, pr, ops) :: fs, cs, p) (0, (k, 0, 1, pr, 22 :: ops) :: fs, cs, owE s n p) := pGt.step (by rw [od_not hk h, if_neg (by omega)])
  exact pHf.of h1 (h2 k pr (22 :: ops) fs cs hk (by rw [pOp_22]; omega) (fun x hx => by
    rcases List.mem_cons.mp hx with rfl | hx
    · exact Or.inr ⟨rfl, by decide⟩
    · exact hr x hx))
theorem ft_sq (h : owG s n p 91 = 1) (h7 : o ≠ 7) (h2 : TlOk s n 1 (o + 1) (owE s n p) c q) (hc : owG s n q 93 = 1) : TlOk s n 3 o p c (owE s n q) := by
  refine ⟨h2.1.le (by omega), ?_⟩
  intro k pr ops fs cs hk ho hr
  have h1 : pGt s n (0, (k, 0, 1, pr, ops) :: fs, cs, p) (0, (5, 0, 1, 0, []) :: (k, 0, 0, pr, ops) :: fs, cs, owE s n p) := pGt.step (by rw [od_sq hk h, if_neg (by omega)])
  obtain ⟨pd, c0, ph, h3, h4, h6, h5⟩ := h2.2 5 0 [] ((k, 0, 0, pr, ops) :: fs) cs (by decide) (by rw [pOp_push (bg := 1)]; omega) (fun x hx => by cases hx)
  refine ⟨[], c, 2, fun x hx => (by cases hx), rfl, Or.inl rfl, (h1.trans h5).trans (pGt.step ?_)⟩
  rw [pGo_s]
  unfold pGo
  have hb : owBo s n q = 0 := owBo_K (by rw [owG_Kn hc]; decide)
  rw [if_neg (by rw [owG_Kn hc]; decide), if_neg (fun g => g.2 (owAo_G hc (by decide))), if_neg (fun g => by have := g.1.2; omega), if_neg (fun g => g.2 hb), if_neg (fun g => by have := g.2; omega), if_neg (by decide), if_neg (by decide), if_neg (by rw [if_pos rfl]; omega), List.append_nil, pJ_all, h4, List.append_assoc]
  rfl
theorem ft_sq5 (h : owG s n p 91 = 1) (h7 : o = 7) : TlX s n 3 o p (50000 + owB s n p) := fun k pr ops fs cs hk ho _ => ⟨p, cs, pHl.step (by rw [od_sq hk h, if_pos (by omega)])⟩
theorem ft_sqx (h : owG s n p 91 = 1) (h7 : o ≠ 7) (h2 : TlX s n 1 (o + 1) (owE s n p) f) : TlX s n 3 o p f := by
  intro k pr ops fs cs hk ho hr
  have h1 : pGt s n (0, (k, 0, 1, pr, ops) :: fs, cs, p) (0, (5, 0, 1, 0, []) :: (k, 0, 0, pr, ops) :: fs, cs, owE s n p) := pGt.step (by rw [od_sq hk h, if_neg (by omega)])
  exact pHf.of h1 (h2 5 0 [] ((k, 0, 0, pr, ops) :: fs) cs (by decide) (by rw [pOp_push (bg := 1)]; omega) (fun x hx => by cases hx))
theorem ft_sqc (h : owG s n p 91 = 1) (h7 : o ≠ 7) (h2 : TlOk s n 1 (o + 1) (owE s n p) c q) (hb : owBo s n q = 0) (hc : owG s n q 93 = 0) : TlX s n 3 o p (owU s n q) := by
  intro k pr ops fs cs hk ho hr
  have h1 : pGt s n (0, (k, 0, 1, pr, ops) :: fs, cs, p) (0, (5, 0, 1, 0, []) :: (k, 0, 0, pr, ops) :: fs, cs, owE s n p) := pGt.step (by rw [od_sq hk h, if_neg (by omega)])
  obtain ⟨pd, c0, ph, h3, h4, h6, h5⟩ := h2.2 5 0 [] ((k, 0, 0, pr, ops) :: fs) cs (by decide) (by rw [pOp_push (bg := 1)]; omega) (fun x hx => by cases hx)
  refine pHf.of (h1.trans h5) ⟨_, _, pHl.step (r := (owU s n q, q, c0 ++ cs)) ?_⟩
  rw [pGo_s]
  unfold pGo
  by_cases h9 : owK s n q = 5
  · rw [if_pos h9]
  · rw [if_neg h9, if_neg (fun g => by have := g.1; have := g.2; omega), if_neg (fun g => by have := g.1.2; omega), if_neg (fun g => g.2 hb), if_neg (fun g => by have := g.2; omega), if_neg (by decide), if_neg (by decide), if_pos (by rw [if_pos rfl]; exact hc)]
/-- a comparison -/
theorem rk_co {a : Int} (h : 17 ≤ a ∧ a ≤ 19) : rk a = 4 := by
  unfold rk
  (repeat' split) <;> omega
theorem cm_pre {k pr : Int} {ops : List Int} {fs : List pF} {cs : List Int} (hn : nfp s n p) (h : LvOk s n 5 o p c q) (hc : owCo s n q ≠ 0) (hk : pT k) (ho : pOp ((k, 0, 1, pr, ops) :: fs) = o) (hr : ∀ x ∈ ops, rk x < 3 ∨ ((3 : Int) = 3 ∧ rk x = 3)) : pGt s n (0, (k, 0, 1, pr, ops) :: fs, cs, p) (0, (k, 1, 0, pr, owCo s n q :: ops) :: fs, c ++ cs, owE s n q) ∧ pOp ((k, 1, 0, pr, owCo s n q :: ops) :: fs) = o ∧ (∀ x ∈ owCo s n q :: ops, rk x < 5) := by
  have hr5 : ∀ x ∈ ops, rk x < 5 := fun x hx => by have := hr x hx; omega
  obtain ⟨pd, c0, h3, h4, h5⟩ := h.2 k 0 1 pr ops fs cs ho (by decide) (fun _ _ => hn) hr5
  have hA := owCo_rng hc
  refine ⟨?_, ?_, fun x hx => ?_⟩
  · refine h5.trans (pGt.step ?_)
    rw [pGo_s]
    unfold pGo
    rw [if_neg (by rw [owCo_4 hc]; decide), if_neg (fun g => g.2 (owCo_Ao hc)), if_pos ⟨⟨hk, rfl⟩, hc⟩, pJ_app pd ops _ h3 hr5, h4, List.append_assoc]
  · rw [pOp_cons] at ho ⊢
    show (fs.length : Int) + (((if owCo s n q = 22 then 1 else 0) + nots ops : Nat) : Int) + (sumN fs : Int) = o
    rw [if_neg (by omega)]
    omega
  · rcases List.mem_cons.mp hx with rfl | hx
    · rw [rk_co hA]; decide
    · exact hr5 x hx
theorem ft_cmp (hn : nfp s n p) (h : LvOk s n 5 o p c q) (hc : owCo s n q ≠ 0) (h2 : LvOk s n 5 o (owE s n q) c2 q2) (ha : owAo s n q2 = 0) : TlOk s n 3 o p ((3 - owCo s n q) :: (c2 ++ c)) q2 := by
  refine ⟨TF.cmp h.1 h2.1 (by omega) (by omega) (by have := owCo_rng hc; omega), ?_⟩
  intro k pr ops fs cs hk ho hr
  obtain ⟨g1, g2, g3⟩ := cm_pre (cs := cs) hn h hc hk ho hr
  obtain ⟨pd, c0, h3, h4, h5⟩ := h2.2 k 1 0 pr (owCo s n q :: ops) fs (c ++ cs) g2 (by decide) (fun _ g => absurd g (by decide)) g3
  refine ⟨pd ++ [owCo s n q], c0 ++ c, 1, fun x hx => ?_, ?_, Or.inr ⟨rfl, ha⟩, ?_⟩
  · rcases List.mem_append.mp hx with hx | hx
    · have := h3 x hx; omega
    · rw [List.mem_singleton] at hx
      rw [hx, rk_co (owCo_rng hc)]; decide
  · rw [h4, owEm_app, List.append_assoc, List.append_assoc]
    rfl
  · have := g1.trans h5
    rw [List.append_assoc, List.append_assoc]
    exact this
theorem ft_x1 (hn : nfp s n p) (h : LvX s n 5 o p f) : TlX s n 3 o p f := fun k pr ops fs cs hk ho hr => h k 0 1 pr ops fs cs ho (by decide) (fun _ _ => hn) (fun x hx => by have := hr x hx; omega)
theorem ft_xc (hn : nfp s n p) (h : LvOk s n 5 o p c q) (ha : owAo s n q = 0) (hc : owCo s n q = 0) : TlX s n 3 o p (owU s n q) := by
  intro k pr ops fs cs hk ho hr
  obtain ⟨pd, c0, h3, h4, h5⟩ := h.2 k 0 1 pr ops fs cs ho (by decide) (fun _ _ => hn) (fun x hx => by have := hr x hx; omega)
  refine pHf.of h5 ⟨_, _, pHl.step (r := (owU s n q, q, c0 ++ cs)) ?_⟩
  rw [pGo_s]
  unfold pGo
  by_cases h9 : owK s n q = 5
  · rw [if_pos h9]
  · rw [if_neg h9, if_neg (fun g => g.2 ha), if_neg (fun g => g.2 hc)]
    by_cases hb : owBo s n q = 0
    · rw [if_neg (fun g => g.2 hb), if_pos ⟨hk, rfl⟩]
    · rw [if_pos ⟨hk, hb⟩, if_pos rfl]
theorem ft_x2 (hn : nfp s n p) (h : LvOk s n 5 o p c q) (hc : owCo s n q ≠ 0) (h2 : LvX s n 5 o (owE s n q) f) : TlX s n 3 o p f := by
  intro k pr ops fs cs hk ho hr
  obtain ⟨g1, g2, g3⟩ := cm_pre (cs := cs) hn h hc hk ho hr
  exact pHf.of g1 (h2 k 1 0 pr (owCo s n q :: ops) fs (c ++ cs) g2 (by decide) (fun _ g => absurd g (by decide)) g3)
/-- and, or -/
theorem bo_pre {k pr : Int} {ops : List Int} {fs : List pF} {cs : List Int} (hl : (l = 2 ∧ owBo s n q = 20) ∨ (l = 1 ∧ owBo s n q = 21)) (h : TlOk s n l o p c q) (hk : pT k) (ho : pOp ((k, 0, 1, pr, ops) :: fs) = o) (hr : ∀ x ∈ ops, rk x < l) : pGt s n (0, (k, 0, 1, pr, ops) :: fs, cs, p) (0, (k, 0, 1, pr, owBo s n q :: ops) :: fs, c ++ cs, owE s n q) ∧ pOp ((k, 0, 1, pr, owBo s n q :: ops) :: fs) = o ∧ (∀ x ∈ owBo s n q :: ops, rk x < l + 1 ∨ (l + 1 = 3 ∧ rk x = 3)) := by
  obtain ⟨pd, c0, ph, h3, h4, h6, h5⟩ := h.2 k pr ops fs cs hk ho (fun x hx => Or.inl (hr x hx))
  have hb : owBo s n q ≠ 0 := by omega
  have hK := owBo_1 hb
  refine ⟨?_, ?_, fun x hx => ?_⟩
  · refine h5.trans (pGt.step ?_)
    rw [pGo_s]
    unfold pGo
    rw [if_neg (by omega), if_neg (fun g => by have := owAo_K (s := s) (n := n) (p := q) (by omega); have := g.2; omega), if_neg (fun g => by have := g.1.2; omega), if_pos ⟨hk, hb⟩, if_neg (by omega)]
    rw [show (if owBo s n q = 20 then (2 : Int) else 1) = l by (split <;> omega), pJ_app pd ops _ h3 hr, h4, List.append_assoc]
  · rw [pOp_cons] at ho ⊢
    show (fs.length : Int) + (((if owBo s n q = 22 then 1 else 0) + nots ops : Nat) : Int) + (sumN fs : Int) = o
    rw [if_neg (by omega)]
    omega
  · rcases List.mem_cons.mp hx with rfl | hx
    · left
      rcases hl with ⟨a, b⟩ | ⟨a, b⟩
      · rw [b, a]; decide
      · rw [b, a]; decide
    · left
      have := hr x hx
      omega
theorem bo_step (hl : (l = 2 ∧ owBo s n q = 20) ∨ (l = 1 ∧ owBo s n q = 21)) (h : TlOk s n l o p c q) (h2 : TlOk s n (l + 1) o (owE s n q) c2 q2) : TlOk s n l o p ((3 - owBo s n q) :: (c2 ++ c)) q2 := by
  refine ⟨h.1.two h2.1 (by omega) (by omega) (by omega), ?_⟩
  intro k pr ops fs cs hk ho hr
  have hr' : ∀ x ∈ ops, rk x < l := fun x hx => by have := hr x hx; omega
  obtain ⟨g1, g2, g3⟩ := bo_pre (cs := cs) hl h hk ho hr'
  obtain ⟨pd, c0, ph, h3, h4, h6, h5⟩ := h2.2 k pr (owBo s n q :: ops) fs (c ++ cs) hk g2 g3
  refine ⟨pd ++ [owBo s n q], c0 ++ c, ph, fun x hx => ?_, ?_, h6, ?_⟩
  · rcases List.mem_append.mp hx with hx | hx
    · have := h3 x hx; omega
    · rw [List.mem_singleton] at hx
      rw [hx]
      rcases hl with ⟨a, b⟩ | ⟨a, b⟩
      · rw [b, a]; decide
      · rw [b, a]; decide
  · rw [h4, owEm_app, List.append_assoc, List.append_assoc]
    rfl
  · have := g1.trans h5
    rw [List.append_assoc, List.append_assoc]
    exact this
theorem bo_xst (hl : (l = 2 ∧ owBo s n q = 20) ∨ (l = 1 ∧ owBo s n q = 21)) (h : TlOk s n l o p c q) (h2 : TlX s n (l + 1) o (owE s n q) f) : TlX s n l o p f := by
  intro k pr ops fs cs hk ho hr
  have hr' : ∀ x ∈ ops, rk x < l := fun x hx => by have := hr x hx; omega
  obtain ⟨g1, g2, g3⟩ := bo_pre (cs := cs) hl h hk ho hr'
  exact pHf.of g1 (h2 k pr (owBo s n q :: ops) fs (c ++ cs) hk g2 g3)
theorem tl_base (hl : l ≤ 2) (h : TlOk s n (l + 1) o p c q) : TlOk s n l o p c q := by
  refine ⟨h.1.le (by omega), ?_⟩
  intro k pr ops fs cs hk ho hr
  obtain ⟨pd, c0, ph, h3, h4, h6, h5⟩ := h.2 k pr ops fs cs hk ho (fun x hx => Or.inl (by have := hr x hx; omega))
  exact ⟨pd, c0, ph, fun x hx => by have := h3 x hx; omega, h4, h6, h5⟩
theorem tl_xb (hl : l ≤ 2) (h : TlX s n (l + 1) o p f) : TlX s n l o p f := fun k pr ops fs cs hk ho hr => h k pr ops fs cs hk ho (fun x hx => Or.inl (by have := hr x hx; omega))
/-- a whole sum -/
theorem sm_all {pr : Int} (h : LvOk s n 5 0 p c q) (ha : owAo s n q = 0) : (owK s n q = 5 → pHf s n (0, [(0, 0, 1, pr, [])], [], p) (owU s n q)) ∧ (owK s n q ≠ 5 → pHl s n (0, [(0, 0, 1, pr, [])], [], p) (0, q, c)) := by
  obtain ⟨pd, c0, h3, h4, h5⟩ := h.2 0 0 1 pr [] [] [] (by rw [pOp_cons]; rfl) (by decide) (fun g => absurd g (nT (by omega))) (fun x hx => by cases hx)
  constructor
  · intro h9
    refine pHf.of h5 ⟨_, _, pHl.step (r := (owU s n q, q, c0 ++ [])) ?_⟩
    rw [pGo_s]
    unfold pGo
    rw [if_pos h9]
  · intro h9
    refine pHl.of h5 (pHl.step ?_)
    rw [pGo_s]
    unfold pGo
    rw [if_neg h9, if_neg (fun g => g.2 ha), if_neg (fun g => nT (by omega) g.1.1), if_neg (fun g => nT (by omega) g.1), if_neg (fun g => nT (by omega) g.1), if_pos (by decide), List.append_nil, pJ_all, List.append_nil, h4]
theorem sm_allx {pr : Int} (h : LvX s n 5 0 p f) : pHf s n (0, [(0, 0, 1, pr, [])], [], p) f := h 0 0 1 pr [] [] [] (by rw [pOp_cons]; rfl) (by decide) (fun g => absurd g (nT (by omega))) (fun x hx => by cases hx)
end SEM2
