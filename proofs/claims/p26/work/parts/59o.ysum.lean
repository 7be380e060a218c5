/-! the reference's frames, exactly -/
def RepG (M : cM) : List pF → Nat → Prop
  | [], n => n = 0
  | F :: fs, n => M 85 fs.length = F.1 ∧ M 86 fs.length = F.2.1 ∧ M 87 fs.length = F.2.2.1 ∧ ((F.1 = 3 ∨ F.1 = 4 ∨ F.1 = 6) → M 88 fs.length = F.2.2.2.1) ∧ ∃ b : Nat, M 89 fs.length = (b : Int) ∧ n = b + F.2.2.2.2.length ∧ RepO M b F.2.2.2.2 ∧ RepG M fs b
def QJ (M : cM) (gs : List pF) (e : Int) : Prop := 0 ≤ M 63 45 ∧ RepG M gs (M 63 45).toNat ∧ M 63 42 = (gs.length : Int) ∧ M 63 43 = pOp gs + e
theorem RepG.congr {M M1 : cM} : ∀ {fs : List pF} {n : Nat}, RepG M fs n → (∀ c, 85 ≤ c → c ≤ 89 → ∀ i, i < fs.length → M1 c i = M c i) → (∀ i, i < n → M1 90 i = M 90 i) → RepG M1 fs n
  | [], _, h, _, _ => h
  | F :: fs, n, h, g, g2 => by
    obtain ⟨r85, r86, r87, r88, b, r89, hn, hO, hF⟩ := h
    have hl : fs.length < (F :: fs).length := by rw [List.length_cons]; omega
    refine ⟨?_, ?_, ?_, fun z => ?_, b, ?_, hn, hO.congr (fun i hi => g2 i (by omega)), hF.congr (fun c c1 c2 i hi => g c c1 c2 i (by omega)) (fun i hi => g2 i (by omega))⟩
    · rw [g 85 (by omega) (by omega) _ hl]; exact r85
    · rw [g 86 (by omega) (by omega) _ hl]; exact r86
    · rw [g 87 (by omega) (by omega) _ hl]; exact r87
    · rw [g 88 (by omega) (by omega) _ hl]; exact r88 z
    · rw [g 89 (by omega) (by omega) _ hl]; exact r89
def qjf (S : List (Nat × Nat)) : Bool := ([42, 43, 45].all fun f => !c_in S 63 f) && [85, 86, 87, 88, 89, 90].all fun c => S.all fun p => p.1 != c
section QJS
variable {M M1 : cM} {gs fs : List pF} {e : Int} {k ph bg pr : Int} {ops : List Int}
theorem QJ.fr {S : List (Nat × Nat)} (h : QJ M gs e) (g : Fr S M M1) (hs : qjf S = true) : QJ M1 gs e := by
  unfold qjf at hs
  rw [Bool.and_eq_true] at hs
  have g0 : ∀ f, f ∈ [42, 43, 45] → M1 63 f = M 63 f := fun f hf => g 63 f (by simpa using List.all_eq_true.mp hs.1 f hf)
  have g1 : ∀ c, c ∈ [85, 86, 87, 88, 89, 90] → c < 114 → ∀ f, M1 c f = M c f := fun c hc hl f => g c f (nin hl (List.all_eq_true.mp hs.2 c hc) f)
  obtain ⟨h0, h1, h2, h3⟩ := h
  refine ⟨by rw [g0 45 (by decide)]; exact h0, ?_, by rw [g0 42 (by decide)]; exact h2, by rw [g0 43 (by decide)]; exact h3⟩
  rw [g0 45 (by decide)]
  refine h1.congr (fun c c1 c2 i _ => g1 c ?_ (by omega) i) (fun i _ => g1 90 (by decide) (by decide) i)
  have : c = 85 ∨ c = 86 ∨ c = 87 ∨ c = 88 ∨ c = 89 := by omega
  rcases this with rfl | rfl | rfl | rfl | rfl <;> decide
theorem QJ.up {c f : Nat} {v : Int} (h : QJ M gs e) (u : Up M c f v M1) (hc : c < 85 ∧ (c ≠ 63 ∨ (f ≠ 42 ∧ f ≠ 43 ∧ f ≠ 45))) : QJ M1 gs e := by
  obtain ⟨h0, h1, h2, h3⟩ := h
  refine ⟨by rw [u.2 63 45 (by omega)]; exact h0, ?_, by rw [u.2 63 42 (by omega)]; exact h2, by rw [u.2 63 43 (by omega)]; exact h3⟩
  rw [u.2 63 45 (by omega)]
  exact h1.congr (fun c' _ _ i _ => u.2 c' i (by omega)) (fun i _ => u.2 90 i (by omega))
theorem QJ.top1 (h : QJ M ((k, ph, bg, pr, ops) :: fs) e) : M 63 42 = (fs.length : Int) + 1 ∧ M 85 (M 63 42 - 1).toNat = k ∧ M 86 (M 63 42 - 1).toNat = ph ∧ M 87 (M 63 42 - 1).toNat = bg ∧ ((k = 3 ∨ k = 4 ∨ k = 6) → M 88 (M 63 42 - 1).toNat = pr) ∧ M 63 43 = pOp ((k, ph, bg, pr, ops) :: fs) + e := by
  obtain ⟨h0, ⟨r85, r86, r87, r88, _⟩, h2, h3⟩ := h
  rw [List.length_cons] at h2
  have ef : (M 63 42 - 1).toNat = fs.length := by omega
  rw [ef]
  exact ⟨by omega, r85, r86, r87, r88, h3⟩
/-- the top frame's kind, phase, beginning -/
theorem QJ.topw {w : Nat} {f v : Int} (h : QJ M ((k, ph, bg, pr, ops) :: fs) e) (hw : w = 85 ∨ w = 86 ∨ w = 87) (hf : f = M 63 42 - 1) (u : Up M w f.toNat v M1) (hk : w = 85 → (v = 3 ∨ v = 4 ∨ v = 6) → (k = 3 ∨ k = 4 ∨ k = 6)) : QJ M1 ((if w = 85 then v else k, if w = 86 then v else ph, if w = 87 then v else bg, pr, ops) :: fs) e := by
  obtain ⟨h0, ⟨r85, r86, r87, r88, b, r89, hn, hO, hF⟩, h2, h3⟩ := h
  rw [List.length_cons] at h2
  have ef : f.toNat = fs.length := by omega
  rw [ef] at u
  have g0 : ∀ x, M1 63 x = M 63 x := fun x => u.2 63 x (by omega)
  have gt : ∀ d, M1 d fs.length = if w = d then v else M d fs.length := by
    intro d
    split
    next g => subst g; exact u.1
    next g => exact u.2 d _ (by omega)
  refine ⟨by rw [g0]; exact h0, ⟨?_, ?_, ?_, fun z => ?_, b, ?_, ?_, ?_, ?_⟩, ?_, ?_⟩
  · rw [gt, r85]
  · rw [gt, r86]
  · rw [gt, r87]
  · rw [gt, if_neg (by omega)]
    refine r88 ?_
    dsimp only at z ⊢
    by_cases e : w = 85
    · rw [if_pos e] at z
      exact hk e z
    · rw [if_neg e] at z
      exact z
  · rw [gt, if_neg (by omega)]; exact r89
  · rw [g0]; exact hn
  · exact hO.congr (fun i _ => u.2 90 i (by omega))
  · exact hF.congr (fun c c1 c2 i hi => u.2 c i (by omega)) (fun i _ => u.2 90 i (by omega))
  · rw [g0, List.length_cons]; omega
  · rw [g0, h3, pOp_cons, pOp_cons]
theorem QJ.pair {f v : Int} (h : QJ M ((k, ph, bg, pr, ops) :: fs) e) (hf : f = M 63 42 - 1) (u : Up M 88 f.toNat v M1) : QJ M1 ((k, ph, bg, v, ops) :: fs) e := by
  obtain ⟨h0, ⟨r85, r86, r87, r88, b, r89, hn, hO, hF⟩, h2, h3⟩ := h
  rw [List.length_cons] at h2
  have ef : f.toNat = fs.length := by omega
  rw [ef] at u
  have g0 : ∀ x, M1 63 x = M 63 x := fun x => u.2 63 x (by omega)
  have gt : ∀ d, d ≠ 88 → M1 d fs.length = M d fs.length := fun d hd => u.2 d _ (by omega)
  refine ⟨by rw [g0]; exact h0, ⟨?_, ?_, ?_, fun z => u.1, b, ?_, ?_, ?_, ?_⟩, ?_, ?_⟩
  · rw [gt 85 (by decide)]; exact r85
  · rw [gt 86 (by decide)]; exact r86
  · rw [gt 87 (by decide)]; exact r87
  · rw [gt 89 (by decide)]; exact r89
  · rw [g0]; exact hn
  · exact hO.congr (fun i _ => u.2 90 i (by omega))
  · exact hF.congr (fun c c1 c2 i hi => u.2 c i (by omega)) (fun i _ => u.2 90 i (by omega))
  · rw [g0, List.length_cons]; omega
  · rw [g0, h3, pOp_cons, pOp_cons]
theorem QJ.opn {v e' : Int} (h : QJ M gs e) (u : Up M 63 43 v M1) (hv : e' = e + (v - M 63 43)) : QJ M1 gs e' := by
  obtain ⟨h0, h1, h2, h3⟩ := h
  refine ⟨by rw [u.2 63 45 (by omega)]; exact h0, ?_, by rw [u.2 63 42 (by omega)]; exact h2, by rw [u.1]; omega⟩
  rw [u.2 63 45 (by omega)]
  exact h1.congr (fun c' _ _ i _ => u.2 c' i (by omega)) (fun i _ => u.2 90 i (by omega))
theorem QJ.hold {o e' : Int} (h : QJ M ((k, ph, bg, pr, ops) :: fs) e) (g : Fr [(63, 45), (90, 99999)] M M1) (h1 : M1 63 45 = M 63 45 + 1) (h2 : M1 90 (M 63 45).toNat = o) (h3 : ∀ j, j ≠ (M 63 45).toNat → M1 90 j = M 90 j) (he : e' = e - (if o = 22 then 1 else 0)) : QJ M1 ((k, ph, bg, pr, o :: ops) :: fs) e' := by
  obtain ⟨h0, ⟨r85, r86, r87, r88, b, r89, hn, hO, hF⟩, hl, hp⟩ := h
  dsimp only at *
  have gr : ∀ d, 85 ≤ d → d ≤ 89 → ∀ i, M1 d i = M d i := fun d d1 d2 i => g d i (by
    have : d = 85 ∨ d = 86 ∨ d = 87 ∨ d = 88 ∨ d = 89 := by omega
    rcases this with rfl | rfl | rfl | rfl | rfl <;> rfl)
  refine ⟨by omega, ⟨?_, ?_, ?_, fun z => ?_, b, ?_, ?_, ⟨?_, ?_⟩, ?_⟩, ?_, ?_⟩
  · rw [gr 85 (by decide) (by decide)]; exact r85
  · rw [gr 86 (by decide) (by decide)]; exact r86
  · rw [gr 87 (by decide) (by decide)]; exact r87
  · rw [gr 88 (by decide) (by decide)]; exact r88 z
  · rw [gr 89 (by decide) (by decide)]; exact r89
  · rw [h1]
    show (M 63 45 + 1).toNat = b + (ops.length + 1)
    omega
  · rw [← h2]
    congr 1
    omega
  · exact hO.congr (fun i hi => h3 i (by omega))
  · exact hF.congr (fun d d1 d2 i _ => gr d d1 d2 i) (fun i hi => h3 i (by omega))
  · rw [g 63 42 rfl]; exact hl
  · rw [g 63 43 rfl, hp, pOp_cons, pOp_cons]
    show (fs.length : Int) + (nots ops : Int) + (sumN fs : Int) + e = (fs.length : Int) + (((if o = 22 then 1 else 0) + nots ops : Nat) : Int) + (sumN fs : Int) + e'
    split at he <;> rename_i z <;> simp [z] <;> omega
/-- what lies on top -/
theorem QJ.topo {o : Int} {os : List Int} (h : QJ M ((k, ph, bg, pr, o :: os) :: fs) e) : M 90 (M 63 45 - 1).toNat = o ∧ M 89 (M 63 42 - 1).toNat < M 63 45 := by
  obtain ⟨h0, ⟨r85, r86, r87, r88, b, r89, hn, ⟨hO, _⟩, hF⟩, hl, hp⟩ := h
  dsimp only at *
  rw [List.length_cons] at hl hn
  constructor
  · rw [← hO]
    congr 1
    omega
  · rw [show (M 63 42 - 1).toNat = fs.length by omega, r89]
    omega
theorem QJ.topn (h : QJ M ((k, ph, bg, pr, []) :: fs) e) : M 89 (M 63 42 - 1).toNat = M 63 45 := by
  obtain ⟨h0, ⟨r85, r86, r87, r88, b, r89, hn, hO, hF⟩, hl, hp⟩ := h
  dsimp only at *
  rw [List.length_cons] at hl
  have hn' : (M 63 45).toNat = b + 0 := hn
  rw [show (M 63 42 - 1).toNat = fs.length by omega, r89]
  omega
theorem QJ.pop {o v : Int} {os : List Int} (h : QJ M ((k, ph, bg, pr, o :: os) :: fs) e) (u : Up M 63 45 v M1) (hv : v = M 63 45 - 1) : QJ M1 ((k, ph, bg, pr, os) :: fs) (e + (if o = 22 then 1 else 0)) := by
  obtain ⟨h0, ⟨r85, r86, r87, r88, b, r89, hn, ⟨hO, hO2⟩, hF⟩, hl, hp⟩ := h
  dsimp only at *
  rw [List.length_cons] at hn
  have g0 : ∀ c i, ¬ (c = 63 ∧ i = 45) → M1 c i = M c i := u.2
  refine ⟨by rw [u.1]; omega, ⟨?_, ?_, ?_, fun z => ?_, b, ?_, ?_, ?_, ?_⟩, ?_, ?_⟩
  · rw [g0 85 _ (by omega)]; exact r85
  · rw [g0 86 _ (by omega)]; exact r86
  · rw [g0 87 _ (by omega)]; exact r87
  · rw [g0 88 _ (by omega)]; exact r88 z
  · rw [g0 89 _ (by omega)]; exact r89
  · rw [u.1]
    show v.toNat = b + os.length
    omega
  · exact hO2.congr (fun i _ => g0 90 i (by omega))
  · exact hF.congr (fun c _ _ i _ => g0 c i (by omega)) (fun i _ => g0 90 i (by omega))
  · rw [g0 63 42 (by omega)]; exact hl
  · rw [g0 63 43 (by omega), hp, pOp_cons, pOp_cons]
    show (fs.length : Int) + (((if o = 22 then 1 else 0) + nots os : Nat) : Int) + (sumN fs : Int) + e = (fs.length : Int) + (nots os : Int) + (sumN fs : Int) + (e + (if o = 22 then 1 else 0))
    split <;> omega
theorem QJ.push {kk : Int} (h : QJ M gs 1) (g : Fr [(63, 42), (85, 99999), (86, 99999), (87, 99999), (89, 99999)] M M1) (hu : Pu M M1 kk) (hk : kk = 2 ∨ kk = 5 ∨ kk = 0) : QJ M1 ((kk, 0, 1, 0, []) :: gs) 0 := by
  obtain ⟨h0, h1, h2, h3⟩ := h
  obtain ⟨p1, p2, p3, p4, p5, p6, p7⟩ := hu
  have hd : (M 63 42).toNat = gs.length := by omega
  rw [hd] at p2 p3 p4 p5 p6 p7
  refine ⟨by rw [g 63 45 rfl]; exact h0, ⟨p2, p3, p4, fun z => absurd z (by dsimp only; omega), (M 63 45).toNat, ?_, ?_, trivial, ?_⟩, ?_, ?_⟩
  · rw [p5]; omega
  · rw [g 63 45 rfl]; rfl
  · exact h1.congr (fun c c1 c2 i hi => p6 c i (by omega) c1 c2) (fun i _ => g 90 i rfl)
  · rw [p1, h2, List.length_cons]; omega
  · rw [g 63 43 rfl, h3, pOp_cons]
    show pOp gs + 1 = (gs.length : Int) + ((0 : Nat) : Int) + (sumN gs : Int) + 0
    unfold pOp
    omega
theorem QJ.push3 {kk P : Int} {M2 : cM} (h : QJ M gs 1) (g : Fr [(63, 42), (85, 99999), (86, 99999), (87, 99999), (89, 99999)] M M1) (hu : Pu M M1 kk) (u : Up M1 88 (M1 63 42 - 1).toNat P M2) : QJ M2 ((kk, 0, 1, P, []) :: gs) 0 := by
  obtain ⟨h0, h1, h2, h3⟩ := h
  obtain ⟨p1, p2, p3, p4, p5, p6, p7⟩ := hu
  have hd : (M 63 42).toNat = gs.length := by omega
  rw [hd] at p2 p3 p4 p5 p6 p7
  rw [show (M1 63 42 - 1).toNat = gs.length by omega] at u
  have ec : ∀ c i, c ≠ 88 → M2 c i = M1 c i := fun c i hc => u.2 c i (by omega)
  refine ⟨by rw [ec 63 45 (by decide), g 63 45 rfl]; exact h0, ⟨?_, ?_, ?_, fun z => u.1, (M 63 45).toNat, ?_, ?_, trivial, ?_⟩, ?_, ?_⟩
  · rw [ec 85 _ (by decide)]; exact p2
  · rw [ec 86 _ (by decide)]; exact p3
  · rw [ec 87 _ (by decide)]; exact p4
  · rw [ec 89 _ (by decide), p5]; omega
  · rw [ec 63 45 (by decide), g 63 45 rfl]; rfl
  · exact h1.congr (fun c c1 c2 i hi => (u.2 c i (by omega)).trans (p6 c i (by omega) c1 c2)) (fun i _ => (ec 90 i (by decide)).trans (g 90 i rfl))
  · rw [ec 63 42 (by decide), p1, h2, List.length_cons]; omega
  · rw [ec 63 43 (by decide), g 63 43 rfl, h3, pOp_cons]
    show pOp gs + 1 = (gs.length : Int) + ((0 : Nat) : Int) + (sumN gs : Int) + 0
    unfold pOp
    omega
theorem QJ.close {v : Int} {F : pF} (h : QJ M ((k, ph, bg, pr, []) :: F :: fs) e) (u : Up M 63 42 v M1) (hv : v = M 63 42 - 1) : QJ M1 (F :: fs) (e + 1) := by
  obtain ⟨h0, ⟨r85, r86, r87, r88, b, r89, hn, hO, hF⟩, hl, hp⟩ := h
  dsimp only at *
  have hn' : (M 63 45).toNat = b + 0 := hn
  have g0 : ∀ c i, ¬ (c = 63 ∧ i = 42) → M1 c i = M c i := u.2
  refine ⟨by rw [g0 63 45 (by omega)]; exact h0, ?_, ?_, ?_⟩
  · rw [g0 63 45 (by omega), show (M 63 45).toNat = b by omega]
    exact hF.congr (fun c _ _ i _ => g0 c i (by omega)) (fun i _ => g0 90 i (by omega))
  · rw [u.1, hv, hl, List.length_cons, List.length_cons]; omega
  · rw [g0 63 43 (by omega), hp, pOp_cons]
    unfold pOp
    show ((F :: fs).length : Int) + ((0 : Nat) : Int) + (sumN (F :: fs) : Int) + e = ((F :: fs).length : Int) - 1 + (sumN (F :: fs) : Int) + (e + 1)
    omega
/-- what is left behind joins -/
def pJo (l : Int) : List Int → List Int
  | [] => []
  | o :: os => if l ≤ rk o then pJo l os else o :: os
theorem pJo_eq (l : Int) : ∀ (ops cs : List Int), (pJ l ops cs).1 = pJo l ops
  | [], _ => rfl
  | o :: os, cs => by
    unfold pJ pJo
    split
    · exact pJo_eq l os _
    · rfl
end QJS
def QI (M : cM) (k ph bg pr : Int) (fs : List pF) (e l : Int) (ops : List Int) : Prop := ∃ os, QJ M ((k, ph, bg, pr, os) :: fs) e ∧ pJo l os = pJo l ops
section QIS
variable {M M1 : cM} {fs : List pF} {e l : Int} {k ph bg pr : Int} {ops : List Int}
theorem QI.fr {S : List (Nat × Nat)} (h : QI M k ph bg pr fs e l ops) (g : Fr S M M1) (hs : qjf S = true) : QI M1 k ph bg pr fs e l ops := by
  obtain ⟨os, h1, h2⟩ := h
  exact ⟨os, h1.fr g hs, h2⟩
theorem QI.opn {v e' : Int} (h : QI M k ph bg pr fs e l ops) (u : Up M 63 43 v M1) (hv : e' = e + (v - M 63 43)) : QI M1 k ph bg pr fs e' l ops := by
  obtain ⟨os, h1, h2⟩ := h
  exact ⟨os, h1.opn u hv, h2⟩
theorem QI.exit1 {x f : Int} (h : QI M k ph bg pr fs e l ops) (hf : f = M 63 42 - 1) (hx : M 89 f.toNat = x) (hb : M 63 45 ≤ x) : QJ M ((k, ph, bg, pr, pJo l ops) :: fs) e := by
  obtain ⟨os, h1, h2⟩ := h
  rw [hf] at hx
  cases os with
  | nil =>
    rw [← h2]
    exact h1
  | cons o os =>
    have := h1.topo.2
    omega
theorem QI.exit2 {f v o : Int} (h : QI M k ph bg pr fs e l ops) (hv : v = M 63 45 - 1) (ho : M 90 v.toNat = o) (hf : f = M 63 42 - 1) {x : Int} (hx : M 89 f.toNat = x) (hb : x < M 63 45) (hr : rk o < l) : QJ M ((k, ph, bg, pr, pJo l ops) :: fs) e := by
  obtain ⟨os, h1, h2⟩ := h
  rw [hf] at hx
  rw [hv] at ho
  cases os with
  | nil =>
    have := h1.topn
    omega
  | cons o' os =>
    have h3 := h1.topo.1
    rw [← h2]
    show QJ M ((k, ph, bg, pr, if l ≤ rk o' then pJo l os else o' :: os) :: fs) e
    rw [if_neg (by rw [← h3, ho]; omega)]
    exact h1
theorem QI.pop {f v o x : Int} (h : QI M k ph bg pr fs e l ops) (hv : v = M 63 45 - 1) (ho : M 90 v.toNat = o) (hf : f = M 63 42 - 1) (hx : M 89 f.toNat = x) (hb : x < M 63 45) (hr : l ≤ rk o) (u : Up M 63 45 v M1) : QI M1 k ph bg pr fs (e + (if o = 22 then 1 else 0)) l ops := by
  obtain ⟨os, h1, h2⟩ := h
  rw [hf] at hx
  cases os with
  | nil =>
    have := h1.topn
    omega
  | cons o' os =>
    have h3 := h1.topo.1
    rw [← hv, ho] at h3
    subst h3
    refine ⟨os, h1.pop u hv, ?_⟩
    rw [← h2]
    show pJo l os = if l ≤ rk o then pJo l os else o :: os
    rw [if_pos hr]
theorem QI.ne {o : Int} (h : QI M k ph bg pr fs (e + (if o = 22 then 1 else 0)) l ops) (ho : o ≠ 22) : QI M k ph bg pr fs e l ops := by
  rw [if_neg ho, Int.add_zero] at h
  exact h
theorem QI.eq {o : Int} (h : QI M k ph bg pr fs (e + (if o = 22 then 1 else 0)) l ops) (ho : o = 22) : QI M k ph bg pr fs (e + 1) l ops := by
  rw [if_pos ho] at h
  exact h
end QIS
def gS_191_l0 : List (Nat × Nat) := [(63, 35), (63, 43), (63, 45), (81, 99999), (82, 99999)]
def gS_191_m : List (Nat × Nat) := [(63, 35), (63, 43), (63, 45), (81, 99999), (82, 99999)]
theorem f_191 {xs : Nat → Int} {Ln d : Nat} {T : List cK} {M : cM} (hT : TT T) (hI : Rng M) {least : Int} {c : Nat → Int} {a q e : Int} (hP : PI M c a 1 7 q e) {k_ ph bg pr e2 : Int} {os_ : List Int} {fs_ : List pF} (hQ : QJ M ((k_, ph, bg, pr, os_) :: fs_) e2) (p0 : 1 ≤ least ∧ least ≤ 6) (p1 : q ≤ 1600) (p2 : 0 ≤ e) : cC k_P xs Ln (d + 1) 191 [rf 63, (0, least)] (T, M) (qV T M gS_191_m (fun M1 => PI M1 c a 1 least q e ∧ KP M M1 ∧ QJ M1 ((k_, ph, bg, pr, pJo least os_) :: fs_) e2)) := by
  show cP k_P xs Ln (d + 1) 191 0 [(0, rf 63), (1, (0, least))] [] (T, M) _
  have hFm : Fr gS_191_m M M := Fr.refl
  have key2 : ∀ n3 : Nat, ∀ M1 : cM, Rng M1 → Fr gS_191_m M M1 → Fr gS_191_l0 M M1 → (KP M M1) → (PI M1 c a 1 7 q e) → (QI M1 k_ ph bg pr fs_ e2 least os_) → (M1 63 45).toNat < n3 → cP k_P xs Ln (d + 1) 191 0 [(0, rf 63), (1, (0, least))] [] (T, M1) (qV T M gS_191_m (fun M1 => PI M1 c a 1 least q e ∧ KP M M1 ∧ QJ M1 ((k_, ph, bg, pr, pJo least os_) :: fs_) e2)) := by
    intro n3
    induction n3 with
    | zero => intro M1 hI1 hFm1 fl1 i4 i5 i6 hm7; exact absurd hm7 (Nat.not_lt_zero _)
    | succ n3 ih8 =>
      intro M1 hI1 hFm1 fl1 i4 i5 i6 hm7
      have hd := PI.deep i5
      refine s_aload_n kx_191_0 rfl ?_
      refine r_getI (k := 63) (f := 45) kx_191_1 kp_191_149 (tk_63 hT) kf_12_45 (fun _ => rfl) (rg_63_45 hI1) (fun v9 v9e v9a v9b => ?_)
      refine s_aload_n kx_191_4 rfl ?_
      refine r_getR (k := 63) (f := 41) (k2 := 89) kx_191_5 kp_191_137 (tk_63 hT) kf_12_41 (by decide) (rq_63_41 hI1) ?_
      refine s_aload_n kx_191_8 rfl ?_
      refine r_getI (k := 63) (f := 42) kx_191_9 kp_191_140 (tk_63 hT) kf_12_42 (fun _ => rfl) (rg_63_42 hI1) (fun v10 v10e v10a v10b => ?_)
      have v10z : M 63 42 = v10 := ((fl1 63 42 rfl)).symm.trans v10e
      refine s_iconst (v := 1) kx_191_12 (by decide) ?_
      refine r_sub kx_191_13 ⟨by omega, by omega⟩ ?_
      refine r_ald (k := 89) kx_191_14 (tk_89 hT) ⟨by omega, by omega⟩ (rg_89 hI1) (fun v11 v11e v11a v11b => ?_)
      refine s_icmp_le (t := 87) kx_191_15 (by decide) (fun hc12 => ?_) (fun hc12 => ?_)
      · exact s_vret kx_191_87 kq_191 ⟨_, rfl, rfl, hI1, hFm1, ⟨(PI.exit1 i5 (f := (v10 - 1)) (by omega) (by omega)), i4, (QI.exit1 i6 (f := (v10 - 1)) (by omega) v11e (by omega))⟩⟩
      · refine s_aload_n kx_191_18 rfl ?_
        refine r_getR (k := 63) (f := 44) (k2 := 90) kx_191_19 kp_191_146 (tk_63 hT) kf_12_44 (by decide) (rq_63_44 hI1) ?_
        refine s_aload_n kx_191_22 rfl ?_
        refine r_getK (k := 63) (f := 45) kx_191_23 kp_191_149 (tk_63 hT) kf_12_45 (fun _ => rfl) v9e ?_
        refine s_iconst (v := 1) kx_191_26 (by decide) ?_
        refine r_sub kx_191_27 ⟨by omega, by omega⟩ ?_
        refine r_ald (k := 90) kx_191_28 (tk_90 hT) ⟨by omega, by omega⟩ (rg_90 hI1) (fun v13 v13e v13a v13b => ?_)
        refine s_callS2 (s1 := 1) (s2 := 0) (as := [(0, v13)]) (rest := []) kx_191_29 kp_191_349 rfl kcl_190 rfl rfl (by decide) (m_190 (d := d) (op := v13) hT hI1) (kF (fun v14 v14p => ?_))
        refine s_iload_n kx_191_32 rfl ?_
        refine s_icmp_lt (t := 87) kx_191_33 (by decide) (fun hc15 => ?_) (fun hc15 => ?_)
        · exact s_vret kx_191_87 kq_191 ⟨_, rfl, rfl, hI1, hFm1, ⟨(PI.exit2 i5 (f := (v10 - 1)) (v := (v9 - 1)) (by omega) (by omega) (by omega) v13e (by omega)), i4, (QI.exit2 i6 (v := (v9 - 1)) (f := (v10 - 1)) (by omega) v13e (by omega) v11e (by omega) (by omega))⟩⟩
        · refine s_aload_n kx_191_36 rfl ?_
          refine s_dup kx_191_37 rfl ?_
          refine r_getK (k := 63) (f := 45) kx_191_38 kp_191_149 (tk_63 hT) kf_12_45 (fun _ => rfl) v9e ?_
          refine s_iconst (v := 1) kx_191_41 (by decide) ?_
          refine r_sub kx_191_42 ⟨by omega, by omega⟩ ?_
          refine r_put (k := 63) (f := 45) kx_191_43 kp_191_149 (tk_63 hT) kf_12_45 rfl (by decide) (by decide) hI1 (ru_63_45 (by omega) (by omega)) (fun M16 hI16 u16 => ?_)
          have hFm16 := hFm1.up u16 rfl
          have hFl016 := fl1.up u16 rfl
          have tr17 := (u16.2 63 35 (by omega))
          have tr18 := (u16.2 63 36 (by omega))
          have tr19 := (u16.2 63 42 (by omega))
          have tr20 := (u16.2 63 43 (by omega))
          refine s_aload_n kx_191_46 rfl ?_
          refine s_aload_n kx_191_47 rfl ?_
          refine r_getR (k := 63) (f := 44) (k2 := 90) kx_191_48 kp_191_146 (tk_63 hT) kf_12_44 (by decide) (rq_63_44 hI16) ?_
          refine s_aload_n kx_191_51 rfl ?_
          refine r_getK (k := 63) (f := 45) kx_191_52 kp_191_149 (tk_63 hT) kf_12_45 (fun _ => rfl) u16.1 ?_
          refine r_aldK (k := 90) kx_191_55 (tk_90 hT) ⟨by omega, by omega⟩ ((u16.2 90 _ (by omega)).trans v13e) ?_
          refine s_iconst (v := 0) kx_191_56 (by decide) ?_
          refine s_callV2 (k := 63) (s1 := 3) (s2 := 0) (as := [(0, 0), (0, v13)]) (rest := []) kx_191_57 kp_191_352 (Or.inl rfl) rfl (tk_63 hT) ki_189 kcl_189 rfl rfl (by decide) (m_189 (d := d) (sort := v13) (v_ := 0) hT hI16 (by omega) (by omega)) (kV (fun M22 hI22 fr22 v21p => ?_))
          have hFm22 := hFm16.call fr22 rfl
          have hFl022 := hFl016.call fr22 rfl
          have tr23 := (fr22 63 42 rfl)
          have tr24 := (fr22 63 43 rfl)
          have tr25 := (fr22 63 45 rfl)
          have hK26 := KP.add (KP.up i4 u16 (by decide)) ((u16.2 63 36 (by omega)).trans (fl1 63 36 rfl)) ⟨(rg_63_35 hI16).1, by omega⟩ (rg_63_36 hI16).1 v21p.2.2
          refine s_aload_n kx_191_60 rfl ?_
          refine r_getR (k := 63) (f := 44) (k2 := 90) kx_191_61 kp_191_146 (tk_63 hT) kf_12_44 (by decide) (rq_63_44 hI22) ?_
          refine s_aload_n kx_191_64 rfl ?_
          refine r_getK (k := 63) (f := 45) kx_191_65 kp_191_149 (tk_63 hT) kf_12_45 (fun _ => rfl) ((fr22 63 45 rfl).trans u16.1) ?_
          refine r_aldK (k := 90) kx_191_68 (tk_90 hT) ⟨by omega, by omega⟩ ((fr22 90 _ rfl).trans ((u16.2 90 _ (by omega)).trans v13e)) ?_
          refine s_bipush (v := 22) kx_191_69 (by decide) ?_
          refine s_icmp_ne (t := 0) kx_191_71 (by decide) (fun hc27 => ?_) (fun hc27 => ?_)
          · have hk28 : M22 63 45 = (v9 - 1) := ((fr22 63 45 rfl).trans u16.1)
            exact cP.wk (lS1 rfl (lS1 rfl lS0)) (ih8 M22 hI22 hFm22 hFl022 hK26 (PI.popB i5 (f := (v10 - 1)) (by omega) (by omega) (by omega) u16 ((u16.2 90 _ (by omega)).trans v13e) (by omega) fr22 v21p.1 v21p.2.1 v21p.2.2) (QI.ne (QI.fr (QI.pop i6 (v := (v9 - 1)) (f := (v10 - 1)) (by omega) v13e (by omega) v11e (by omega) (by omega) u16) fr22 rfl) (by omega)) (by omega))
          · have ho22 : v13 = 22 := by omega
            have hpn := PI.popN i5 (f := (v10 - 1)) (by omega) (by omega) (by omega) u16 (((u16.2 90 _ (by omega)).trans v13e).trans ho22) fr22 v21p.1 (v21p.2.1.trans ho22) v21p.2.2
            have hop := PI.e_le hpn
            refine s_aload_n kx_191_74 rfl ?_
            refine s_dup kx_191_75 rfl ?_
            refine r_getI (k := 63) (f := 43) kx_191_76 kp_191_143 (tk_63 hT) kf_12_43 (fun _ => rfl) (rg_63_43 hI22) (fun v29 v29e v29a v29b => ?_)
            refine s_iconst (v := 1) kx_191_79 (by decide) ?_
            refine r_sub kx_191_80 ⟨by omega, by omega⟩ ?_
            refine r_put (k := 63) (f := 43) kx_191_81 kp_191_143 (tk_63 hT) kf_12_43 rfl (by decide) (by decide) hI22 (ru_63_43 (by omega) (by omega)) (fun M30 hI30 u30 => ?_)
            have hFm30 := hFm22.up u30 rfl
            have hFl030 := hFl022.up u30 rfl
            have tr31 := (u30.2 63 35 (by omega))
            have tr32 := (u30.2 63 36 (by omega))
            have tr33 := (u30.2 63 42 (by omega))
            refine s_goto (t := 0) kx_191_84 (by decide) ?_
            have hk34 : M30 63 45 = (v9 - 1) := ((u30.2 63 45 (by omega)).trans ((fr22 63 45 rfl).trans u16.1))
            exact cP.wk (lS1 rfl (lS1 rfl lS0)) (ih8 M30 hI30 hFm30 hFl030 (KP.up hK26 u30 (by decide)) (PI.opn (e' := e) hpn u30 (by omega)) (QI.opn (e' := e2) (QI.eq (QI.fr (QI.pop i6 (v := (v9 - 1)) (f := (v10 - 1)) (by omega) v13e (by omega) v11e (by omega) (by omega) u16) fr22 rfl) (by omega)) u30 (by omega)) (by omega))
  exact cP.wk (lS1 rfl (lS1 rfl lS0)) (key2 _ M hI hFm Fr.refl (KP.refl (M := M)) hP ⟨os_, hQ, rfl⟩ (Nat.lt_succ_self _))
