/-! the reference's frames, exactly -/
def RepG (M : cM) : List pF → Nat → Prop
  | [], n => n = 0
  | F :: fs, n => M 85 fs.length = F.1 ∧ M 86 fs.length = F.2.1 ∧ M 87 fs.length = F.2.2.1 ∧ ((F.1 = 3 ∨ F.1 = 4 ∨ F.1 = 6) → M 88 fs.length = F.2.2.2.1) ∧ ∃ b : Nat, M 89 fs.length = (b : Int) ∧ n = b + F.2.2.2.2.length ∧ RepO M b F.2.2.2.2 ∧ RepG M fs b
def QJ (M : cM) (gs : List pF) (e : Int) : Prop := 0 ≤ M 63 45 ∧ RepG M gs (M 63 45).toNat ∧ M 63 42 = (gs.length : Int) ∧ M 63 43 = pOp gs + e
theorem RepG.congr {M M1 : cM} : ∀ {fs : List pF} {n : Nat}, RepG M fs n → (∀ c, 85 ≤ c → c ≤ 89 → ∀ i, i < fs.length → M1 c i = M c i) → (∀ i, i < n → M1 90 i = M 90 i) → RepG M1 fs n
  | [], _, h, _, _ => h
  | F :: fs, n, h, g, g2 => by
    obtain ⟨r85, r86, r87, r88, b, r89, hn, hO, hF⟩ := h
    have hl : fs.length < (F :: fs).length := by rw [List.length_cons]; omega
    refine ⟨?_, ?_, ?_, fun z => ?_, b, ?_, hn, hO.congr (fun i hi => g2 i (by omega)), hF.congr (fun c c1 c2 i hi => g c c1 c2 i (by omega)) (fun i hi => g2 i (by omega))⟩
    · rw [g 85 (by omega) (by omega) _ hl]; exact r85
    · rw [g 86 (by omega) (by omega) _ hl]; exact r86
    · rw [g 87 (by omega) (by omega) _ hl]; exact r87
    · rw [g 88 (by omega) (by omega) _ hl]; exact r88 z
    · rw [g 89 (by omega) (by omega) _ hl]; exact r89
def qjf (S : List (Nat × Nat)) : Bool := ([42, 43, 45].all fun f => !c_in S 63 f) && [85, 86, 87, 88, 89, 90].all fun c => S.all fun p => p.1 != c
section QJS
variable {M M1 : cM} {gs fs : List pF} {e : Int} {k ph bg pr : Int} {ops : List Int}
theorem QJ.fr {S : List (Nat × Nat)} (h : QJ M gs e) (g : Fr S M M1) (hs : qjf S = true) : QJ M1 gs e := by
  unfold qjf at hs
  rw [Bool.and_eq_true] at hs
  have g0 : ∀ f, f ∈ [42, 43, 45] → M1 63 f = M 63 f := fun f hf => g 63 f (by simpa using List.all_eq_true.mp hs.1 f hf)
  have g1 : ∀ c, c ∈ [85, 86, 87, 88, 89, 90] → c < 114 → ∀ f, M1 c f = M c f := fun c hc hl f => g c f (nin hl (List.all_eq_true.mp hs.2 c hc) f)
  obtain ⟨h0, h1, h2, h3⟩ := h
  refine ⟨by rw [g0 45 (by decide)]; exact h0, ?_, by rw [g0 42 (by decide)]; exact h2, by rw [g0 43 (by decide)]; exact h3⟩
  rw [g0 45 (by decide)]
  refine h1.congr (fun c c1 c2 i _ => g1 c ?_ (by omega) i) (fun i _ => g1 90 (by decide) (by decide) i)
  have : c = 85 ∨ c = 86 ∨ c = 87 ∨ c = 88 ∨ c = 89 := by omega
  rcases this with rfl | rfl | rfl | rfl | rfl <;> decide
theorem QJ.up {c f : Nat} {v : Int} (h : QJ M gs e) (u : Up M c f v M1) (hc : c < 85 ∧ (c ≠ 63 ∨ (f ≠ 42 ∧ f ≠ 43 ∧ f ≠ 45))) : QJ M1 gs e := by
  obtain ⟨h0, h1, h2, h3⟩ := h
  refine ⟨by rw [u.2 63 45 (by omega)]; exact h0, ?_, by rw [u.2 63 42 (by omega)]; exact h2, by rw [u.2 63 43 (by omega)]; exact h3⟩
  rw [u.2 63 45 (by omega)]
  exact h1.congr (fun c' _ _ i _ => u.2 c' i (by omega)) (fun i _ => u.2 90 i (by omega))
theorem QJ.top1 (h : QJ M ((k, ph, bg, pr, ops) :: fs) e) : M 63 42 = (fs.length : Int) + 1 ∧ M 85 (M 63 42 - 1).toNat = k ∧ M 86 (M 63 42 - 1).toNat = ph ∧ M 87 (M 63 42 - 1).toNat = bg ∧ ((k = 3 ∨ k = 4 ∨ k = 6) → M 88 (M 63 42 - 1).toNat = pr) ∧ M 63 43 = pOp ((k, ph, bg, pr, ops) :: fs) + e := by
  obtain ⟨h0, ⟨r85, r86, r87, r88, _⟩, h2, h3⟩ := h
  rw [List.length_cons] at h2
  have ef : (M 63 42 - 1).toNat = fs.length := by omega
  rw [ef]
  exact ⟨by omega, r85, r86, r87, r88, h3⟩
/-- the top frame's kind, phase, beginning -/
theorem QJ.topw {w : Nat} {f v : Int} (h : QJ M ((k, ph, bg, pr, ops) :: fs) e) (hw : w = 85 ∨ w = 86 ∨ w = 87) (hf : f = M 63 42 - 1) (u : Up M w f.toNat v M1) (hk : w = 85 → (v = 3 ∨ v = 4 ∨ v = 6) → (k = 3 ∨ k = 4 ∨ k = 6)) : QJ M1 ((if w = 85 then v else k, if w = 86 then v else ph, if w = 87 then v else bg, pr, ops) :: fs) e := by
  obtain ⟨h0, ⟨r85, r86, r87, r88, b, r89, hn, hO, hF⟩, h2, h3⟩ := h
  rw [List.length_cons] at h2
  have ef : f.toNat = fs.length := by omega
  rw [ef] at u
  have g0 : ∀ x, M1 63 x = M 63 x := fun x => u.2 63 x (by omega)
  have gt : ∀ d, M1 d fs.length = if w = d then v else M d fs.length := by
    intro d
    split
    next g => subst g; exact u.1
    next g => exact u.2 d _ (by omega)
  refine ⟨by rw [g0]; exact h0, ⟨?_, ?_, ?_, fun z => ?_, b, ?_, ?_, ?_, ?_⟩, ?_, ?_⟩
  · rw [gt, r85]
  · rw [gt, r86]
  · rw [gt, r87]
  · rw [gt, if_neg (by omega)]
    refine r88 ?_
    dsimp only at z ⊢
    by_cases e : w = 85
    · rw [if_pos e] at z
      exact hk e z
    · rw [if_neg e] at z
      exact z
  · rw [gt, if_neg (by omega)]; exact r89
  · rw [g0]; exact hn
  · exact hO.congr (fun i _ => u.2 90 i (by omega))
  · exact hF.congr (fun c c1 c2 i hi => u.2 c i (by omega)) (fun i _ => u.2 90 i (by omega))
  · rw [g0, List.length_cons]; omega
  · rw [g0, h3, pOp_cons, pOp_cons]
theorem QJ.pair {f v : Int} (h : QJ M ((k, ph, bg, pr, ops) :: fs) e) (hf : f = M 63 42 - 1) (u : Up M 88 f.toNat v M1) : QJ M1 ((k, ph, bg, v, ops) :: fs) e := by
  obtain ⟨h0, ⟨r85, r86, r87, r88, b, r89, hn, hO, hF⟩, h2, h3⟩ := h
  rw [List.length_cons] at h2
  have ef : f.toNat = fs.length := by omega
  rw [ef] at u
  have g0 : ∀ x, M1 63 x = M 63 x := fun x => u.2 63 x (by omega)
  have gt : ∀ d, d ≠ 88 → M1 d fs.length = M d fs.length := fun d hd => u.2 d _ (by omega)
  refine ⟨by rw [g0]; exact h0, ⟨?_, ?_, ?_, fun z => u.1, b, ?_, ?_, ?_, ?_⟩, ?_, ?_⟩
  · rw [gt 85 (by decide)]; exact r85
  · rw [gt 86 (by decide)]; exact r86
  · rw [gt 87 (by decide)]; exact r87
  · rw [gt 89 (by decide)]; exact r89
  · rw [g0]; exact hn
  · exact hO.congr (fun i _ => u.2 90 i (by omega))
  · exact hF.congr (fun c c1 c2 i hi => u.2 c i (by omega)) (fun i _ => u.2 90 i (by omega))
  · rw [g0, List.length_cons]; omega
  · rw [g0, h3, pOp_cons, pOp_cons]
theorem QJ.opn {v e' : Int} (h : QJ M gs e) (u : Up M 63 43 v M1) (hv : e' = e + (v - M 63 43)) : QJ M1 gs e' := by
  obtain ⟨h0, h1, h2, h3⟩ := h
  refine ⟨by rw [u.2 63 45 (by omega)]; exact h0, ?_, by rw [u.2 63 42 (by omega)]; exact h2, by rw [u.1]; omega⟩
  rw [u.2 63 45 (by omega)]
  exact h1.congr (fun c' _ _ i _ => u.2 c' i (by omega)) (fun i _ => u.2 90 i (by omega))
theorem QJ.hold {o e' : Int} (h : QJ M ((k, ph, bg, pr, ops) :: fs) e) (g : Fr [(63, 45), (90, 99999)] M M1) (h1 : M1 63 45 = M 63 45 + 1) (h2 : M1 90 (M 63 45).toNat = o) (h3 : ∀ j, j ≠ (M 63 45).toNat → M1 90 j = M 90 j) (he : e' = e - (if o = 22 then 1 else 0)) : QJ M1 ((k, ph, bg, pr, o :: ops) :: fs) e' := by
  obtain ⟨h0, ⟨r85, r86, r87, r88, b, r89, hn, hO, hF⟩, hl, hp⟩ := h
  dsimp only at *
  have gr : ∀ d, 85 ≤ d → d ≤ 89 → ∀ i, M1 d i = M d i := fun d d1 d2 i => g d i (by
    have : d = 85 ∨ d = 86 ∨ d = 87 ∨ d = 88 ∨ d = 89 := by omega
    rcases this with rfl | rfl | rfl | rfl | rfl <;> rfl)
  refine ⟨by omega, ⟨?_, ?_, ?_, fun z => ?_, b, ?_, ?_, ⟨?_, ?_⟩, ?_⟩, ?_, ?_⟩
  · rw [gr 85 (by decide) (by decide)]; exact r85
  · rw [gr 86 (by decide) (by decide)]; exact r86
  · rw [gr 87 (by decide) (by decide)]; exact r87
  · rw [gr 88 (by decide) (by decide)]; exact r88 z
  · rw [gr 89 (by decide) (by decide)]; exact r89
  · rw [h1]
    show (M 63 45 + 1).toNat = b + (ops.length + 1)
    omega
  · rw [← h2]
    congr 1
    omega
  · exact hO.congr (fun i hi => h3 i (by omega))
  · exact hF.congr (fun d d1 d2 i _ => gr d d1 d2 i) (fun i hi => h3 i (by omega))
  · rw [g 63 42 rfl]; exact hl
  · rw [g 63 43 rfl, hp, pOp_cons, pOp_cons]
    show (fs.length : Int) + (nots ops : Int) + (sumN fs : Int) + e = (fs.length : Int) + (((if o = 22 then 1 else 0) + nots ops : Nat) : Int) + (sumN fs : Int) + e'
    split at he <;> rename_i z <;> simp [z] <;> omega
/-- what lies on top -/
theorem QJ.topo {o : Int} {os : List Int} (h : QJ M ((k, ph, bg, pr, o :: os) :: fs) e) : M 90 (M 63 45 - 1).toNat = o ∧ M 89 (M 63 42 - 1).toNat < M 63 45 := by
  obtain ⟨h0, ⟨r85, r86, r87, r88, b, r89, hn, ⟨hO, _⟩, hF⟩, hl, hp⟩ := h
  dsimp only at *
  rw [List.length_cons] at hl hn
  constructor
  · rw [← hO]
    congr 1
    omega
  · rw [show (M 63 42 - 1).toNat = fs.length by omega, r89]
    omega
theorem QJ.topn (h : QJ M ((k, ph, bg, pr, []) :: fs) e) : M 89 (M 63 42 - 1).toNat = M 63 45 := by
  obtain ⟨h0, ⟨r85, r86, r87, r88, b, r89, hn, hO, hF⟩, hl, hp⟩ := h
  dsimp only at *
  rw [List.length_cons] at hl
  have hn' : (M 63 45).toNat = b + 0 := hn
  rw [show (M 63 42 - 1).toNat = fs.length by omega, r89]
  omega
theorem QJ.pop {o v : Int} {os : List Int} (h : QJ M ((k, ph, bg, pr, o :: os) :: fs) e) (u : Up M 63 45 v M1) (hv : v = M 63 45 - 1) : QJ M1 ((k, ph, bg, pr, os) :: fs) (e + (if o = 22 then 1 else 0)) := by
  obtain ⟨h0, ⟨r85, r86, r87, r88, b, r89, hn, ⟨hO, hO2⟩, hF⟩, hl, hp⟩ := h
  dsimp only at *
  rw [List.length_cons] at hn
  have g0 : ∀ c i, ¬ (c = 63 ∧ i = 45) → M1 c i = M c i := u.2
  refine ⟨by rw [u.1]; omega, ⟨?_, ?_, ?_, fun z => ?_, b, ?_, ?_, ?_, ?_⟩, ?_, ?_⟩
  · rw [g0 85 _ (by omega)]; exact r85
  · rw [g0 86 _ (by omega)]; exact r86
  · rw [g0 87 _ (by omega)]; exact r87
  · rw [g0 88 _ (by omega)]; exact r88 z
  · rw [g0 89 _ (by omega)]; exact r89
  · rw [u.1]
    show v.toNat = b + os.length
    omega
  · exact hO2.congr (fun i _ => g0 90 i (by omega))
  · exact hF.congr (fun c _ _ i _ => g0 c i (by omega)) (fun i _ => g0 90 i (by omega))
  · rw [g0 63 42 (by omega)]; exact hl
  · rw [g0 63 43 (by omega), hp, pOp_cons, pOp_cons]
    show (fs.length : Int) + (((if o = 22 then 1 else 0) + nots os : Nat) : Int) + (sumN fs : Int) + e = (fs.length : Int) + (nots os : Int) + (sumN fs : Int) + (e + (if o = 22 then 1 else 0))
    split <;> omega
theorem QJ.push {kk : Int} (h : QJ M gs 1) (g : Fr [(63, 42), (85, 99999), (86, 99999), (87, 99999), (89, 99999)] M M1) (hu : Pu M M1 kk) (hk : kk = 2 ∨ kk = 5 ∨ kk = 0) : QJ M1 ((kk, 0, 1, 0, []) :: gs) 0 := by
  obtain ⟨h0, h1, h2, h3⟩ := h
  obtain ⟨p1, p2, p3, p4, p5, p6, p7⟩ := hu
  have hd : (M 63 42).toNat = gs.length := by omega
  rw [hd] at p2 p3 p4 p5 p6 p7
  refine ⟨by rw [g 63 45 rfl]; exact h0, ⟨p2, p3, p4, fun z => absurd z (by dsimp only; omega), (M 63 45).toNat, ?_, ?_, trivial, ?_⟩, ?_, ?_⟩
  · rw [p5]; omega
  · rw [g 63 45 rfl]; rfl
  · exact h1.congr (fun c c1 c2 i hi => p6 c i (by omega) c1 c2) (fun i _ => g 90 i rfl)
  · rw [p1, h2, List.length_cons]; omega
  · rw [g 63 43 rfl, h3, pOp_cons]
    show pOp gs + 1 = (gs.length : Int) + ((0 : Nat) : Int) + (sumN gs : Int) + 0
    unfold pOp
    omega
theorem QJ.push3 {kk P : Int} {M2 : cM} (h : QJ M gs 1) (g : Fr [(63, 42), (85, 99999), (86, 99999), (87, 99999), (89, 99999)] M M1) (hu : Pu M M1 kk) (u : Up M1 88 (M1 63 42 - 1).toNat P M2) : QJ M2 ((kk, 0, 1, P, []) :: gs) 0 := by
  obtain ⟨h0, h1, h2, h3⟩ := h
  obtain ⟨p1, p2, p3, p4, p5, p6, p7⟩ := hu
  have hd : (M 63 42).toNat = gs.length := by omega
  rw [hd] at p2 p3 p4 p5 p6 p7
  rw [show (M1 63 42 - 1).toNat = gs.length by omega] at u
  have ec : ∀ c i, c ≠ 88 → M2 c i = M1 c i := fun c i hc => u.2 c i (by omega)
  refine ⟨by rw [ec 63 45 (by decide), g 63 45 rfl]; exact h0, ⟨?_, ?_, ?_, fun z => u.1, (M 63 45).toNat, ?_, ?_, trivial, ?_⟩, ?_, ?_⟩
  · rw [ec 85 _ (by decide)]; exact p2
  · rw [ec 86 _ (by decide)]; exact p3
  · rw [ec 87 _ (by decide)]; exact p4
  · rw [ec 89 _ (by decide), p5]; omega
  · rw [ec 63 45 (by decide), g 63 45 rfl]; rfl
  · exact h1.congr (fun c c1 c2 i hi => (u.2 c i (by omega)).trans (p6 c i (by omega) c1 c2)) (fun i _ => (ec 90 i (by decide)).trans (g 90 i rfl))
  · rw [ec 63 42 (by decide), p1, h2, List.length_cons]; omega
  · rw [ec 63 43 (by decide), g 63 43 rfl, h3, pOp_cons]
    show pOp gs + 1 = (gs.length : Int) + ((0 : Nat) : Int) + (sumN gs : Int) + 0
    unfold pOp
    omega
theorem QJ.close {v : Int} {F : pF} (h : QJ M ((k, ph, bg, pr, []) :: F :: fs) e) (u : Up M 63 42 v M1) (hv : v = M 63 42 - 1) : QJ M1 (F :: fs) (e + 1) := by
  obtain ⟨h0, ⟨r85, r86, r87, r88, b, r89, hn, hO, hF⟩, hl, hp⟩ := h
  dsimp only at *
  have hn' : (M 63 45).toNat = b + 0 := hn
  have g0 : ∀ c i, ¬ (c = 63 ∧ i = 42) → M1 c i = M c i := u.2
  refine ⟨by rw [g0 63 45 (by omega)]; exact h0, ?_, ?_, ?_⟩
  · rw [g0 63 45 (by omega), show (M 63 45).toNat = b by omega]
    exact hF.congr (fun c _ _ i _ => g0 c i (by omega)) (fun i _ => g0 90 i (by omega))
  · rw [u.1, hv, hl, List.length_cons, List.length_cons]; omega
  · rw [g0 63 43 (by omega), hp, pOp_cons]
    unfold pOp
    show ((F :: fs).length : Int) + ((0 : Nat) : Int) + (sumN (F :: fs) : Int) + e = ((F :: fs).length : Int) - 1 + (sumN (F :: fs) : Int) + (e + 1)
    omega
/-- what is left behind joins -/
def pJo (l : Int) : List Int → List Int
  | [] => []
  | o :: os => if l ≤ rk o then pJo l os else o :: os
theorem pJo_eq (l : Int) : ∀ (ops cs : List Int), (pJ l ops cs).1 = pJo l ops
  | [], _ => rfl
  | o :: os, cs => by
    unfold pJ pJo
    split
    · exact pJo_eq l os _
    · rfl
end QJS
/-! the reference's codes (newest first), from a on -/
def kdc (c sort v : Int) : Prop := (sort = 0 ∧ c = v ∧ 0 ≤ c) ∨ (sort = 9 ∧ c = 1) ∨ (1 ≤ sort ∧ sort ≤ 6 ∧ c = -sort) ∨ (10 ≤ sort ∧ sort ≤ 23 ∧ c = 3 - sort)
/-- where they begin, and how the values were at first -/
abbrev pRa : Type := (Nat → Int) × Int
def RCo (M : cM) (a : pRa) (cs : List Int) : Prop := 0 ≤ a.2 ∧ 0 ≤ M 63 36 ∧ M 63 35 = a.2 + (cs.length : Int) ∧ (∀ i : Nat, i < cs.length → kdc (cs.reverse.getD i 0) (M 81 (1600 * M 63 36 + a.2 + (i : Int)).toNat) (M 82 (1600 * M 63 36 + a.2 + (i : Int)).toNat)) ∧ ∀ k : Nat, (k : Int) < 1600 * M 63 36 + a.2 → M 82 k = a.1 k
def rcf (S : List (Nat × Nat)) : Bool := (!c_in S 63 35 && !c_in S 63 36) && S.all fun p => p.1 != 81 && p.1 != 82
/-- what add does -/
def AdY (M M1 : cM) (sort v : Int) : Prop := M1 82 (1600 * M 63 36 + M 63 35).toNat = v ∧ ∀ k, k ≠ (1600 * M 63 36 + M 63 35).toNat → M1 82 k = M 82 k
section RCS
variable {M M1 : cM} {a : pRa} {c sort v : Int} {cs : List Int}
theorem RCo.fr {S : List (Nat × Nat)} (h : RCo M a cs) (g : Fr S M M1) (hs : rcf S = true) : RCo M1 a cs := by
  unfold rcf at hs
  rw [Bool.and_eq_true, Bool.and_eq_true] at hs
  have hm : ∀ q ∈ S, q.1 ≠ 81 ∧ q.1 ≠ 82 := fun q hq => by
    have := List.all_eq_true.mp hs.2 q hq
    simpa using this
  have e81 : ∀ f, M1 81 f = M 81 f := fun f => g 81 f (nin (by decide) (List.all_eq_true.mpr fun q hq => by have := hm q hq; simp; omega) f)
  have e82 : ∀ f, M1 82 f = M 82 f := fun f => g 82 f (nin (by decide) (List.all_eq_true.mpr fun q hq => by have := hm q hq; simp; omega) f)
  unfold RCo
  rw [g 63 35 (by simpa using hs.1.1), g 63 36 (by simpa using hs.1.2)]
  simp only [e81, e82]
  exact h
theorem RCo.up {k f : Nat} {x : Int} (h : RCo M a cs) (u : Up M k f x M1) (hk : k ≠ 81 ∧ k ≠ 82 ∧ (k ≠ 63 ∨ (f ≠ 35 ∧ f ≠ 36))) : RCo M1 a cs := by
  have e81 : ∀ f, M1 81 f = M 81 f := fun f => u.2 81 f (by omega)
  have e82 : ∀ f, M1 82 f = M 82 f := fun f => u.2 82 f (by omega)
  unfold RCo
  rw [u.2 63 35 (by omega), u.2 63 36 (by omega)]
  simp only [e81, e82]
  exact h
theorem RCo.push {S : List (Nat × Nat)} (h : RCo M a cs) (g : Fr S M M1) (h36 : c_in S 63 36 = false) (h1 : M1 63 35 = M 63 35 + 1) (h2 : M1 81 (1600 * M 63 36 + M 63 35).toNat = sort) (h3 : ∀ k, k ≠ (1600 * M 63 36 + M 63 35).toNat → M1 81 k = M 81 k) (h4 : AdY M M1 sort v) (hk : kdc c sort v) : RCo M1 a (c :: cs) := by
  obtain ⟨a0, a1, a2, a3, a4⟩ := h
  have e36 : M1 63 36 = M 63 36 := g 63 36 h36
  refine ⟨a0, by omega, by rw [h1, a2, List.length_cons]; omega, fun i hi => ?_, fun k hk2 => ?_⟩
  rotate_left
  · rw [h4.2 k (by omega)]
    exact a4 k (by omega)
  rw [List.length_cons] at hi
  rw [e36, List.reverse_cons, List.getD_eq_getElem?_getD, List.getElem?_append, List.length_reverse]
  by_cases e : i < cs.length
  · rw [if_pos e, h3 _ (by omega), h4.2 _ (by omega), ← List.getD_eq_getElem?_getD]
    exact a3 i e
  · have ei : i = cs.length := by omega
    subst ei
    rw [if_neg e, Nat.sub_self, show (1600 * M 63 36 + a.2 + (cs.length : Int)).toNat = (1600 * M 63 36 + M 63 35).toNat by omega, h2, h4.1]
    exact hk
theorem RCo.cast {us : List Int} (h : RCo M a cs) (e : cs = us) : RCo M a us := e ▸ h
end RCS
def QI (M : cM) (k ph bg pr : Int) (fs : List pF) (e l : Int) (ops : List Int) (a : pRa) (cs : List Int) : Prop := ∃ os us, QJ M ((k, ph, bg, pr, os) :: fs) e ∧ RCo M a us ∧ pJ l os us = pJ l ops cs
/-- one is taken off, its code is not written yet -/
def QP (M : cM) (k ph bg pr : Int) (fs : List pF) (e l : Int) (ops : List Int) (a : pRa) (cs : List Int) (o : Int) : Prop := ∃ os us, QJ M ((k, ph, bg, pr, os) :: fs) e ∧ RCo M a us ∧ pJ l os ((3 - o) :: us) = pJ l ops cs
section QIS
variable {M M1 : cM} {fs : List pF} {e l : Int} {k ph bg pr : Int} {a : pRa} {ops cs : List Int}
theorem pJ_jo (l : Int) (ops cs : List Int) : (pJo l ops, (pJ l ops cs).2) = pJ l ops cs := Prod.ext (pJo_eq l ops cs).symm rfl
theorem QI.opn {v e' : Int} (h : QI M k ph bg pr fs e l ops a cs) (u : Up M 63 43 v M1) (hv : e' = e + (v - M 63 43)) : QI M1 k ph bg pr fs e' l ops a cs := by
  obtain ⟨os, us, h1, h2, h3⟩ := h
  exact ⟨os, us, h1.opn u hv, h2.up u (by decide), h3⟩
theorem QI.exit1 {x f : Int} (h : QI M k ph bg pr fs e l ops a cs) (hf : f = M 63 42 - 1) (hx : M 89 f.toNat = x) (hb : M 63 45 ≤ x) : QJ M ((k, ph, bg, pr, pJo l ops) :: fs) e ∧ RCo M a (pJ l ops cs).2 := by
  obtain ⟨os, us, h1, h2, h3⟩ := h
  rw [hf] at hx
  cases os with
  | nil =>
    have e0 : pJ l [] us = ([], us) := rfl
    rw [e0] at h3
    rw [← pJo_eq l ops cs, ← h3]
    exact ⟨h1, h2⟩
  | cons o os =>
    have := h1.topo.2
    omega
theorem QI.exit2 {f v o : Int} (h : QI M k ph bg pr fs e l ops a cs) (hv : v = M 63 45 - 1) (ho : M 90 v.toNat = o) (hf : f = M 63 42 - 1) {x : Int} (hx : M 89 f.toNat = x) (hb : x < M 63 45) (hr : rk o < l) : QJ M ((k, ph, bg, pr, pJo l ops) :: fs) e ∧ RCo M a (pJ l ops cs).2 := by
  obtain ⟨os, us, h1, h2, h3⟩ := h
  rw [hf] at hx
  rw [hv] at ho
  cases os with
  | nil =>
    have := h1.topn
    omega
  | cons o' os =>
    have h4 := h1.topo.1
    have e0 : pJ l (o' :: os) us = (o' :: os, us) := by
      show (if l ≤ rk o' then _ else _) = _
      rw [if_neg (by rw [← h4, ho]; omega)]
    rw [e0] at h3
    rw [← pJo_eq l ops cs, ← h3]
    exact ⟨h1, h2⟩
theorem QI.pop {f v o x : Int} (h : QI M k ph bg pr fs e l ops a cs) (hv : v = M 63 45 - 1) (ho : M 90 v.toNat = o) (hf : f = M 63 42 - 1) (hx : M 89 f.toNat = x) (hb : x < M 63 45) (hr : l ≤ rk o) (u : Up M 63 45 v M1) : QP M1 k ph bg pr fs (e + (if o = 22 then 1 else 0)) l ops a cs o := by
  obtain ⟨os, us, h1, h2, h3⟩ := h
  rw [hf] at hx
  cases os with
  | nil =>
    have := h1.topn
    omega
  | cons o' os =>
    have h4 := h1.topo.1
    rw [← hv, ho] at h4
    subst h4
    refine ⟨os, us, h1.pop u hv, h2.up u (by decide), ?_⟩
    rw [← h3]
    show pJ l os ((3 - o) :: us) = if l ≤ rk o then pJ l os ((3 - o) :: us) else (o :: os, us)
    rw [if_pos hr]
theorem QP.add {S : List (Nat × Nat)} {o sort v : Int} (h : QP M k ph bg pr fs e l ops a cs o) (g : Fr S M M1) (hs : qjf S = true) (h36 : c_in S 63 36 = false) (h1 : M1 63 35 = M 63 35 + 1) (h2 : M1 81 (1600 * M 63 36 + M 63 35).toNat = sort) (h3 : ∀ k, k ≠ (1600 * M 63 36 + M 63 35).toNat → M1 81 k = M 81 k) (h4 : AdY M M1 sort v) (ho : sort = o) (hk : opOk o) : QI M1 k ph bg pr fs e l ops a cs := by
  obtain ⟨os, us, q1, q2, q3⟩ := h
  unfold opOk at hk
  exact ⟨os, _, q1.fr g hs, q2.push g h36 h1 h2 h3 h4 (Or.inr (Or.inr (Or.inr ⟨by omega, by omega, by omega⟩))), q3⟩
theorem QI.ne {o : Int} (h : QI M k ph bg pr fs (e + (if o = 22 then 1 else 0)) l ops a cs) (ho : o ≠ 22) : QI M k ph bg pr fs e l ops a cs := by
  rw [if_neg ho, Int.add_zero] at h
  exact h
theorem QI.eq {o : Int} (h : QI M k ph bg pr fs (e + (if o = 22 then 1 else 0)) l ops a cs) (ho : o = 22) : QI M k ph bg pr fs (e + 1) l ops a cs := by
  rw [if_pos ho] at h
  exact h
end QIS
def gS_189_m : List (Nat × Nat) := [(63, 35), (81, 99999), (82, 99999)]
theorem f_189 {xs : Nat → Int} {Ln d : Nat} {T : List cK} {M : cM} (hT : TT T) (hI : Rng M) {sort v_ : Int} {bX : Int} {WX : cM} (hKX : KB bX WX M) (p0 : 0 ≤ sort ∧ sort ≤ 23) (p1 : M 63 35 ≤ 1599) : cC k_P xs Ln (d + 0) 189 [rf 63, (0, sort), (0, v_)] (T, M) (qV T M gS_189_m (fun M1 => ((M1 63 35 = M 63 35 + 1 ∧ M1 81 (1600 * M 63 36 + M 63 35).toNat = sort ∧ (∀ k, k ≠ (1600 * M 63 36 + M 63 35).toNat → M1 81 k = M 81 k)) ∧ AdY M M1 sort v_) ∧ KB bX WX M1)) := by
  show cP k_P xs Ln (d + 0) 189 0 [(0, rf 63), (1, (0, sort)), (2, (0, v_))] [] (T, M) _
  have hFm : Fr gS_189_m M M := Fr.refl
  have hkx1 := hKX.1
  have hkx2 := hKX.2.1
  have hkx3 := hKX.2.2.1
  refine s_aload_n kx_189_0 rfl ?_
  refine r_getR (k := 63) (f := 31) (k2 := 81) kx_189_1 kp_189_105 (tk_63 hT) kf_12_31 (by decide) (rq_63_31 hI) ?_
  refine s_sipush (v := 1600) kx_189_4 (by decide) ?_
  refine s_aload_n kx_189_7 rfl ?_
  refine r_getI (k := 63) (f := 36) kx_189_8 kp_189_121 (tk_63 hT) kf_12_36 (fun _ => rfl) (rg_63_36 hI) (fun v1 v1e v1a v1b => ?_)
  refine r_mul kx_189_11 ⟨by omega, by omega⟩ ?_
  refine s_aload_n kx_189_12 rfl ?_
  refine r_getI (k := 63) (f := 35) kx_189_13 kp_189_118 (tk_63 hT) kf_12_35 (fun _ => rfl) (rg_63_35 hI) (fun v2 v2e v2a v2b => ?_)
  refine r_add kx_189_16 ⟨by omega, by omega⟩ ?_
  refine s_iload_n kx_189_17 rfl ?_
  refine r_ast (k := 81) kx_189_18 (tk_81 hT) ⟨by omega, by omega⟩ hI (ru_81 (by omega) (by omega)) (fun M3 hI3 u3 => ?_)
  have hFm3 := hFm.up u3 rfl
  have tr4 := (u3.2 63 36 (by omega))
  have hkx5 := (KB.upk hKX u3 (by decide) ⟨by omega, by omega⟩)
  refine s_aload_n kx_189_19 rfl ?_
  refine r_getR (k := 63) (f := 32) (k2 := 82) kx_189_20 kp_189_108 (tk_63 hT) kf_12_32 (by decide) (rq_63_32 hI3) ?_
  refine s_sipush (v := 1600) kx_189_23 (by decide) ?_
  refine s_aload_n kx_189_26 rfl ?_
  refine r_getK (k := 63) (f := 36) kx_189_27 kp_189_121 (tk_63 hT) kf_12_36 (fun _ => rfl) ((u3.2 63 36 (by omega)).trans v1e) ?_
  refine r_mul kx_189_30 ⟨by omega, by omega⟩ ?_
  refine s_aload_n kx_189_31 rfl ?_
  refine r_getK (k := 63) (f := 35) kx_189_32 kp_189_118 (tk_63 hT) kf_12_35 (fun _ => rfl) ((u3.2 63 35 (by omega)).trans v2e) ?_
  refine r_add kx_189_35 ⟨by omega, by omega⟩ ?_
  refine s_iload_n kx_189_36 rfl ?_
  refine r_ast (k := 82) kx_189_37 (tk_82 hT) ⟨by omega, by omega⟩ hI3 ru_82 (fun M6 hI6 u6 => ?_)
  have hFm6 := hFm3.up u6 rfl
  have tr7 := (u6.2 63 36 (by omega))
  have hkx8 := (KB.upk hkx5 u6 (by decide) ⟨by omega, by omega⟩)
  refine s_aload_n kx_189_38 rfl ?_
  refine s_dup kx_189_39 rfl ?_
  refine r_getK (k := 63) (f := 35) kx_189_40 kp_189_118 (tk_63 hT) kf_12_35 (fun _ => rfl) ((u6.2 63 35 (by omega)).trans ((u3.2 63 35 (by omega)).trans v2e)) ?_
  refine s_iconst (v := 1) kx_189_43 (by decide) ?_
  refine r_add kx_189_44 ⟨by omega, by omega⟩ ?_
  refine r_put (k := 63) (f := 35) kx_189_45 kp_189_118 (tk_63 hT) kf_12_35 rfl (by decide) (by decide) hI6 (ru_63_35 (by omega) (by omega)) (fun M9 hI9 u9 => ?_)
  have hFm9 := hFm6.up u9 rfl
  have tr10 := (u9.2 63 36 (by omega))
  have hkx11 := (KB.up0 hkx8 u9 (by decide))
  have hk12 : M9 63 35 = (v2 + 1) := u9.1
  exact s_vret kx_189_48 kq_189 ⟨_, rfl, rfl, hI9, hFm9, ⟨⟨⟨by omega, by rw [(show (1600 * M 63 36 + M 63 35).toNat = ((1600 * v1) + v2).toNat by rw [v1e, v2e])]; exact ((u9.2 81 _ (by omega)).trans ((u6.2 81 _ (by omega)).trans u3.1)), fun k hk => ((u9.2 81 k (by omega)).trans ((u6.2 81 k (by omega)).trans (u3.2 81 k (by rw [(show (1600 * M 63 36 + M 63 35).toNat = ((1600 * v1) + v2).toNat by rw [v1e, v2e])] at hk; omega))))⟩, (by rw [(show (1600 * M 63 36 + M 63 35).toNat = ((1600 * v1) + v2).toNat by rw [v1e, v2e])]; exact u9.2 82 _ (by omega) |>.trans u6.1), (fun k hk => (u9.2 82 k (by omega)).trans ((u6.2 82 k (by rw [(show (1600 * M 63 36 + M 63 35).toNat = ((1600 * v1) + v2).toNat by rw [v1e, v2e])] at hk; omega)).trans (u3.2 82 k (by omega))))⟩, hkx11⟩⟩
def gS_191_l0 : List (Nat × Nat) := [(63, 35), (63, 43), (63, 45), (81, 99999), (82, 99999)]
def gS_191_m : List (Nat × Nat) := [(63, 35), (63, 43), (63, 45), (81, 99999), (82, 99999)]
theorem f_191 {xs : Nat → Int} {Ln d : Nat} {T : List cK} {M : cM} (hT : TT T) (hI : Rng M) {least : Int} {c : Nat → Int} {a q e : Int} (hP : PI M c a 1 7 q e) {k_ ph bg pr e2 : Int} {os_ : List Int} {fs_ : List pF} (hQ : QJ M ((k_, ph, bg, pr, os_) :: fs_) e2) {ra : pRa} {cs : List Int} (hRC : RCo M ra cs) {bX : Int} {WX : cM} (hKX : KB bX WX M) (p0 : 1 ≤ least ∧ least ≤ 6) (p1 : q ≤ 1600) (p2 : 0 ≤ e) : cC k_P xs Ln (d + 1) 191 [rf 63, (0, least)] (T, M) (qV T M gS_191_m (fun M1 => (PI M1 c a 1 least q e ∧ KP M M1 ∧ QJ M1 ((k_, ph, bg, pr, pJo least os_) :: fs_) e2 ∧ RCo M1 ra (pJ least os_ cs).2) ∧ KB bX WX M1)) := by
  show cP k_P xs Ln (d + 1) 191 0 [(0, rf 63), (1, (0, least))] [] (T, M) _
  have hFm : Fr gS_191_m M M := Fr.refl
  have hkx1 := hKX.1
  have hkx2 := hKX.2.1
  have hkx3 := hKX.2.2.1
  have key2 : ∀ n3 : Nat, ∀ M1 : cM, Rng M1 → Fr gS_191_m M M1 → Fr gS_191_l0 M M1 → (KB bX WX M1) → (KP M M1) → (PI M1 c a 1 7 q e) → (QI M1 k_ ph bg pr fs_ e2 least os_ ra cs) → (M1 63 45).toNat < n3 → cP k_P xs Ln (d + 1) 191 0 [(0, rf 63), (1, (0, least))] [] (T, M1) (qV T M gS_191_m (fun M1 => (PI M1 c a 1 least q e ∧ KP M M1 ∧ QJ M1 ((k_, ph, bg, pr, pJo least os_) :: fs_) e2 ∧ RCo M1 ra (pJ least os_ cs).2) ∧ KB bX WX M1)) := by
    intro n3
    induction n3 with
    | zero => intro M1 hI1 hFm1 fl1 i4 i5 i6 i7 hm8; exact absurd hm8 (Nat.not_lt_zero _)
    | succ n3 ih9 =>
      intro M1 hI1 hFm1 fl1 i4 i5 i6 i7 hm8
      have hd := PI.deep i6
      refine s_aload_n kx_191_0 rfl ?_
      refine r_getI (k := 63) (f := 45) kx_191_1 kp_191_149 (tk_63 hT) kf_12_45 (fun _ => rfl) (rg_63_45 hI1) (fun v10 v10e v10a v10b => ?_)
      refine s_aload_n kx_191_4 rfl ?_
      refine r_getR (k := 63) (f := 41) (k2 := 89) kx_191_5 kp_191_137 (tk_63 hT) kf_12_41 (by decide) (rq_63_41 hI1) ?_
      refine s_aload_n kx_191_8 rfl ?_
      refine r_getI (k := 63) (f := 42) kx_191_9 kp_191_140 (tk_63 hT) kf_12_42 (fun _ => rfl) (rg_63_42 hI1) (fun v11 v11e v11a v11b => ?_)
      have v11z : M 63 42 = v11 := ((fl1 63 42 rfl)).symm.trans v11e
      refine s_iconst (v := 1) kx_191_12 (by decide) ?_
      refine r_sub kx_191_13 ⟨by omega, by omega⟩ ?_
      refine r_ald (k := 89) kx_191_14 (tk_89 hT) ⟨by omega, by omega⟩ (rg_89 hI1) (fun v12 v12e v12a v12b => ?_)
      refine s_icmp_le (t := 87) kx_191_15 (by decide) (fun hc13 => ?_) (fun hc13 => ?_)
      · exact s_vret kx_191_87 kq_191 ⟨_, rfl, rfl, hI1, hFm1, ⟨⟨(PI.exit1 i6 (f := (v11 - 1)) (by omega) (by omega)), i5, (QI.exit1 i7 (f := (v11 - 1)) (by omega) v12e (by omega))⟩, i4⟩⟩
      · refine s_aload_n kx_191_18 rfl ?_
        refine r_getR (k := 63) (f := 44) (k2 := 90) kx_191_19 kp_191_146 (tk_63 hT) kf_12_44 (by decide) (rq_63_44 hI1) ?_
        refine s_aload_n kx_191_22 rfl ?_
        refine r_getK (k := 63) (f := 45) kx_191_23 kp_191_149 (tk_63 hT) kf_12_45 (fun _ => rfl) v10e ?_
        refine s_iconst (v := 1) kx_191_26 (by decide) ?_
        refine r_sub kx_191_27 ⟨by omega, by omega⟩ ?_
        refine r_ald (k := 90) kx_191_28 (tk_90 hT) ⟨by omega, by omega⟩ (rg_90 hI1) (fun v14 v14e v14a v14b => ?_)
        refine s_callS2 (s1 := 1) (s2 := 0) (as := [(0, v14)]) (rest := []) kx_191_29 kp_191_349 rfl kcl_190 rfl rfl (by decide) (m_190 (d := d) (op := v14) hT hI1) (kF (fun v15 v15p => ?_))
        refine s_iload_n kx_191_32 rfl ?_
        refine s_icmp_lt (t := 87) kx_191_33 (by decide) (fun hc16 => ?_) (fun hc16 => ?_)
        · exact s_vret kx_191_87 kq_191 ⟨_, rfl, rfl, hI1, hFm1, ⟨⟨(PI.exit2 i6 (f := (v11 - 1)) (v := (v10 - 1)) (by omega) (by omega) (by omega) v14e (by omega)), i5, (QI.exit2 i7 (v := (v10 - 1)) (f := (v11 - 1)) (by omega) v14e (by omega) v12e (by omega) (by omega))⟩, i4⟩⟩
        · refine s_aload_n kx_191_36 rfl ?_
          refine s_dup kx_191_37 rfl ?_
          refine r_getK (k := 63) (f := 45) kx_191_38 kp_191_149 (tk_63 hT) kf_12_45 (fun _ => rfl) v10e ?_
          refine s_iconst (v := 1) kx_191_41 (by decide) ?_
          refine r_sub kx_191_42 ⟨by omega, by omega⟩ ?_
          refine r_put (k := 63) (f := 45) kx_191_43 kp_191_149 (tk_63 hT) kf_12_45 rfl (by decide) (by decide) hI1 (ru_63_45 (by omega) (by omega)) (fun M17 hI17 u17 => ?_)
          have hFm17 := hFm1.up u17 rfl
          have hFl017 := fl1.up u17 rfl
          have tr18 := (u17.2 63 35 (by omega))
          have tr19 := (u17.2 63 36 (by omega))
          have tr20 := (u17.2 63 42 (by omega))
          have tr21 := (u17.2 63 43 (by omega))
          have hkx22 := (KB.up0 i4 u17 (by decide))
          refine s_aload_n kx_191_46 rfl ?_
          refine s_aload_n kx_191_47 rfl ?_
          refine r_getR (k := 63) (f := 44) (k2 := 90) kx_191_48 kp_191_146 (tk_63 hT) kf_12_44 (by decide) (rq_63_44 hI17) ?_
          refine s_aload_n kx_191_51 rfl ?_
          refine r_getK (k := 63) (f := 45) kx_191_52 kp_191_149 (tk_63 hT) kf_12_45 (fun _ => rfl) u17.1 ?_
          refine r_aldK (k := 90) kx_191_55 (tk_90 hT) ⟨by omega, by omega⟩ ((u17.2 90 _ (by omega)).trans v14e) ?_
          refine s_iconst (v := 0) kx_191_56 (by decide) ?_
          refine s_callV2 (k := 63) (s1 := 3) (s2 := 0) (as := [(0, 0), (0, v14)]) (rest := []) kx_191_57 kp_191_352 (Or.inl rfl) rfl (tk_63 hT) ki_189 kcl_189 rfl rfl (by decide) (f_189 (d := d) (sort := v14) (v_ := 0) hT hI17  hkx22 (by omega) (by omega)) (kV (fun M24 hI24 fr24 v23p => ?_))
          have hFm24 := hFm17.call fr24 rfl
          have hFl024 := hFl017.call fr24 rfl
          have tr25 := (fr24 63 42 rfl)
          have tr26 := (fr24 63 43 rfl)
          have tr27 := (fr24 63 45 rfl)
          have tr28 := (fr24 63 36 rfl)
          have v23pk := v23p.2
          (replace v23p := v23p.1)
          have v23py := v23p.2
          (replace v23p := v23p.1)
          have hK29 := KP.add (KP.up i5 u17 (by decide)) ((u17.2 63 36 (by omega)).trans (fl1 63 36 rfl)) ⟨(rg_63_35 hI17).1, by omega⟩ (rg_63_36 hI17).1 v23p.2.2
          refine s_aload_n kx_191_60 rfl ?_
          refine r_getR (k := 63) (f := 44) (k2 := 90) kx_191_61 kp_191_146 (tk_63 hT) kf_12_44 (by decide) (rq_63_44 hI24) ?_
          refine s_aload_n kx_191_64 rfl ?_
          refine r_getK (k := 63) (f := 45) kx_191_65 kp_191_149 (tk_63 hT) kf_12_45 (fun _ => rfl) ((fr24 63 45 rfl).trans u17.1) ?_
          refine r_aldK (k := 90) kx_191_68 (tk_90 hT) ⟨by omega, by omega⟩ ((fr24 90 _ rfl).trans ((u17.2 90 _ (by omega)).trans v14e)) ?_
          refine s_bipush (v := 22) kx_191_69 (by decide) ?_
          refine s_icmp_ne (t := 0) kx_191_71 (by decide) (fun hc30 => ?_) (fun hc30 => ?_)
          · have hk31 : M24 63 45 = (v10 - 1) := ((fr24 63 45 rfl).trans u17.1)
            exact cP.wk (lS1 rfl (lS1 rfl lS0)) (ih9 M24 hI24 hFm24 hFl024 v23pk hK29 (PI.popB i6 (f := (v11 - 1)) (by omega) (by omega) (by omega) u17 ((u17.2 90 _ (by omega)).trans v14e) (by omega) fr24 v23p.1 v23p.2.1 v23p.2.2) (QI.ne (QP.add (QI.pop i7 (v := (v10 - 1)) (f := (v11 - 1)) (by omega) v14e (by omega) v12e (by omega) (by omega) u17) fr24 rfl rfl v23p.1 v23p.2.1 v23p.2.2 v23py rfl (PI.drop i6 (f := (v11 - 1)) (by omega) (by omega) (by omega) u17 v14e).1) (by omega)) (by omega))
          · have ho22 : v14 = 22 := by omega
            have hpn := PI.popN i6 (f := (v11 - 1)) (by omega) (by omega) (by omega) u17 (((u17.2 90 _ (by omega)).trans v14e).trans ho22) fr24 v23p.1 (v23p.2.1.trans ho22) v23p.2.2
            have hop := PI.e_le hpn
            refine s_aload_n kx_191_74 rfl ?_
            refine s_dup kx_191_75 rfl ?_
            refine r_getI (k := 63) (f := 43) kx_191_76 kp_191_143 (tk_63 hT) kf_12_43 (fun _ => rfl) (rg_63_43 hI24) (fun v32 v32e v32a v32b => ?_)
            refine s_iconst (v := 1) kx_191_79 (by decide) ?_
            refine r_sub kx_191_80 ⟨by omega, by omega⟩ ?_
            refine r_put (k := 63) (f := 43) kx_191_81 kp_191_143 (tk_63 hT) kf_12_43 rfl (by decide) (by decide) hI24 (ru_63_43 (by omega) (by omega)) (fun M33 hI33 u33 => ?_)
            have hFm33 := hFm24.up u33 rfl
            have hFl033 := hFl024.up u33 rfl
            have tr34 := (u33.2 63 35 (by omega))
            have tr35 := (u33.2 63 36 (by omega))
            have tr36 := (u33.2 63 42 (by omega))
            have hkx37 := (KB.up0 v23pk u33 (by decide))
            refine s_goto (t := 0) kx_191_84 (by decide) ?_
            have hk38 : M33 63 45 = (v10 - 1) := ((u33.2 63 45 (by omega)).trans ((fr24 63 45 rfl).trans u17.1))
            exact cP.wk (lS1 rfl (lS1 rfl lS0)) (ih9 M33 hI33 hFm33 hFl033 hkx37 (KP.up hK29 u33 (by decide)) (PI.opn (e' := e) hpn u33 (by omega)) (QI.opn (e' := e2) (QI.eq (QP.add (QI.pop i7 (v := (v10 - 1)) (f := (v11 - 1)) (by omega) v14e (by omega) v12e (by omega) (by omega) u17) fr24 rfl rfl v23p.1 v23p.2.1 v23p.2.2 v23py rfl (PI.drop i6 (f := (v11 - 1)) (by omega) (by omega) (by omega) u17 v14e).1) (by omega)) u33 (by omega)) (by omega))
  exact cP.wk (lS1 rfl (lS1 rfl lS0)) (key2 _ M hI hFm Fr.refl hKX (KP.refl (M := M)) hP ⟨os_, cs, hQ, hRC, rfl⟩ (Nat.lt_succ_self _))
