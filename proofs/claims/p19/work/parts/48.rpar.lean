/-! the reader of sums: frames with what is held back, and how many operands are wanting -/
def rk (op : Int) : Int := if op = 21 then 1 else if op = 20 then 2 else if op = 22 then 3 else if op = 17 ∨ op = 18 ∨ op = 19 then 4 else if op = 10 ∨ op = 11 then 5 else 6
theorem rk_rng (op : Int) : 1 ≤ rk op ∧ rk op ≤ 6 := by
  unfold rk
  (repeat' split) <;> omega
theorem rk_3 {op : Int} (h : rk op = 3) : op = 22 := by
  unfold rk at h
  (repeat' split at h) <;> omega
theorem rk_22 : rk 22 = 3 := by decide
def opOk (o : Int) : Prop := (10 ≤ o ∧ o ≤ 14) ∨ (17 ≤ o ∧ o ≤ 22)
abbrev pF := Int × Int × Int × Int × List Int
def RepO (M : cM) (b : Nat) : List Int → Prop
  | [] => True
  | o :: os => M 90 (b + os.length) = o ∧ RepO M b os
def srt : List Int → Prop
  | [] => True
  | o :: os => (∀ x ∈ os, rk x < rk o ∨ (x = 22 ∧ o = 22)) ∧ srt os
def nots : List Int → Nat
  | [] => 0
  | o :: os => (if o = 22 then 1 else 0) + nots os
def bins : List Int → Nat
  | [] => 0
  | o :: os => (if o = 22 then 0 else 1) + bins os
theorem nots_bins : ∀ (l : List Int), l.length = nots l + bins l
  | [] => rfl
  | o :: os => by
    have := nots_bins os
    unfold nots bins
    rw [List.length_cons]
    split <;> omega
theorem srt_bins : ∀ (l : List Int), srt l → ∀ r : Int, 1 ≤ r → (∀ x ∈ l, rk x < r) → (bins l : Int) ≤ r - 1
  | [], _, r, h1, _ => by
    show ((0 : Nat) : Int) ≤ r - 1
    omega
  | o :: os, hs, r, h1, hr => by
    unfold bins
    have ho := hr o List.mem_cons_self
    have hk := rk_rng o
    split
    next e =>
      have := srt_bins os hs.2 r h1 (fun x hx => hr x (List.mem_cons_of_mem _ hx))
      omega
    next e =>
      have := srt_bins os hs.2 (rk o) hk.1 (fun x hx => by
        rcases hs.1 x hx with g | g
        · exact g
        · exact absurd g.2 e)
      omega
def comp (k p : Int) : Nat := if k = 4 then (if p = 23 then 2 else 1) else if k = 3 then (if p = 23 then 1 else 0) else 0
theorem comp_le (k p : Int) : comp k p ≤ 2 := by
  unfold comp
  (repeat' split) <;> omega
def fOk (F : pF) : Prop := srt F.2.2.2.2 ∧ (∀ x ∈ F.2.2.2.2, opOk x) ∧ (F.2.1 = 0 → ∀ x ∈ F.2.2.2.2, rk x ≠ 4) ∧ (F.2.2.1 = 1 → ∀ x ∈ F.2.2.2.2, rk x ≤ 3) ∧ ((F.1 = 3 ∨ F.1 = 4 ∨ F.1 = 6) → F.2.2.2.1 = 15 ∨ F.2.2.2.1 = 16 ∨ F.2.2.2.1 = 23) ∧ (F.1 = 6 → F.2.2.2.1 = 23)
def RepF (M : cM) : List pF → Nat → Prop
  | [], n => n = 0
  | F :: fs, n => M 85 fs.length = F.1 ∧ M 86 fs.length = F.2.1 ∧ M 87 fs.length = F.2.2.1 ∧ M 88 fs.length = F.2.2.2.1 ∧ ∃ b : Nat, M 89 fs.length = (b : Int) ∧ n = b + F.2.2.2.2.length ∧ RepO M b F.2.2.2.2 ∧ fOk F ∧ (fs = [] → F.1 < 2) ∧ RepF M fs b
def sumN : List pF → Nat
  | [] => 0
  | F :: fs => nots F.2.2.2.2 + sumN fs
def need : List pF → Nat
  | [] => 0
  | F :: fs => bins F.2.2.2.2 + comp F.1 F.2.2.2.1 + need fs
theorem RepO.congr {M M1 : cM} {b : Nat} : ∀ {l : List Int}, RepO M b l → (∀ i, i < b + l.length → M1 90 i = M 90 i) → RepO M1 b l
  | [], _, _ => trivial
  | o :: os, h, g => by
    refine ⟨?_, RepO.congr h.2 (fun i hi => g i (by rw [List.length_cons]; omega))⟩
    rw [g _ (by rw [List.length_cons]; omega)]
    exact h.1
theorem RepF.congr {M M1 : cM} : ∀ {fs : List pF} {n : Nat}, RepF M fs n → (∀ c, 85 ≤ c → c ≤ 89 → ∀ i, i < fs.length → M1 c i = M c i) → (∀ i, i < n → M1 90 i = M 90 i) → RepF M1 fs n
  | [], _, h, _, _ => h
  | F :: fs, n, h, g, g2 => by
    obtain ⟨r85, r86, r87, r88, b, r89, hn, hO, hok, hbot, hF⟩ := h
    have hl : fs.length < (F :: fs).length := by rw [List.length_cons]; omega
    refine ⟨?_, ?_, ?_, ?_, b, ?_, hn, hO.congr (fun i hi => g2 i (by omega)), hok, hbot, hF.congr (fun c c1 c2 i hi => g c c1 c2 i (by omega)) (fun i hi => g2 i (by omega))⟩
    · rw [g 85 (by omega) (by omega) _ hl]; exact r85
    · rw [g 86 (by omega) (by omega) _ hl]; exact r86
    · rw [g 87 (by omega) (by omega) _ hl]; exact r87
    · rw [g 88 (by omega) (by omega) _ hl]; exact r88
    · rw [g 89 (by omega) (by omega) _ hl]; exact r89
theorem RepF.need_le {M : cM} : ∀ {fs : List pF} {n : Nat}, RepF M fs n → need fs ≤ 8 * fs.length ∧ n ≤ 6 * fs.length + sumN fs
  | [], n, h => by
    have : n = 0 := h
    subst this
    exact ⟨Nat.le_refl _, Nat.le_refl _⟩
  | F :: fs, n, h => by
    obtain ⟨r85, r86, r87, r88, b, r89, hn, hO, hok, hbot, hF⟩ := h
    have h1 := hF.need_le
    have h2 := srt_bins F.2.2.2.2 hok.1 7 (by decide) (fun x _ => by have := rk_rng x; omega)
    have h3 := comp_le F.1 F.2.2.2.1
    have h4 := nots_bins F.2.2.2.2
    unfold need sumN
    rw [List.length_cons]
    omega
def PI (M : cM) (c : Nat → Int) (a : Int) (x : Nat) (r q e : Int) : Prop := ∃ (F : pF) (fs : List pF), (∀ G ∈ fs, G.2.2.1 = 0) ∧ (∀ k, k < (1600 * M 63 36 + a).toNat → M 81 k = c k) ∧ RepF M (F :: fs) (M 63 45).toNat ∧ M 63 42 = ((fs.length + 1 : Nat) : Int) ∧ M 63 43 = ((fs.length + sumN (F :: fs) : Nat) : Int) + e ∧ (∀ o ∈ F.2.2.2.2, rk o < r) ∧ 0 ≤ a ∧ a ≤ M 63 35 ∧ hgt M (1600 * M 63 36 + a).toNat (M 63 35 - a).toNat = some (x + need (F :: fs)) ∧ M 63 35 + M 63 45 + (fs.length : Int) ≤ q ∧ 0 ≤ M 63 45 ∧ 0 ≤ M 63 36
section PIS
variable {M M1 : cM} {c : Nat → Int} {a r q e : Int} {x : Nat}
theorem PI.deep (h : PI M c a x r q e) : 1 ≤ M 63 42 ∧ M 63 35 + M 63 45 + M 63 42 - 1 ≤ q ∧ 0 ≤ a ∧ a ≤ M 63 35 := by
  obtain ⟨F, fs, hG, hC, hR, h42, h43, hr, ha, hac, hh, hq, h45, h36⟩ := h
  refine ⟨?_, ?_, ha, hac⟩ <;> omega
theorem PI.small (h : PI M c a x r q e) (h7 : M 63 43 ≤ 7) (he : 0 ≤ e) : M 63 42 ≤ 8 ∧ M 63 45 ≤ 60 ∧ ∃ z : Nat, z ≤ 64 ∧ hgt M (1600 * M 63 36 + a).toNat (M 63 35 - a).toNat = some (x + z) := by
  obtain ⟨F, fs, hG, hC, hR, h42, h43, hr, ha, hac, hh, hq, h45, h36⟩ := h
  have h1 := hR.need_le
  rw [List.length_cons] at h1
  refine ⟨by omega, by omega, need (F :: fs), by omega, hh⟩
theorem PI.wk (h : PI M c a x r q e) {r' q' : Int} (hr' : r ≤ r') (hq' : q ≤ q') : PI M c a x r' q' e := by
  obtain ⟨F, fs, hG, hC, hR, h42, h43, hr, ha, hac, hh, hq, h45, h36⟩ := h
  exact ⟨F, fs, hG, hC, hR, h42, h43, fun o ho => by have := hr o ho; omega, ha, hac, hh, by omega, h45, h36⟩
theorem PI.top7 (h : PI M c a x r q e) : PI M c a x 7 q e := by
  obtain ⟨F, fs, hG, hC, hR, h42, h43, hr, ha, hac, hh, hq, h45, h36⟩ := h
  exact ⟨F, fs, hG, hC, hR, h42, h43, fun o ho => by have := rk_rng o; omega, ha, hac, hh, hq, h45, h36⟩
def pid (S : List (Nat × Nat)) : Bool := ([35, 36, 42, 43, 45].all fun f => !c_in S 63 f) && [81, 85, 86, 87, 88, 89, 90].all fun c => S.all fun p => p.1 != c
theorem PI.fr {S : List (Nat × Nat)} (h : PI M c a x r q e) (g : Fr S M M1) (hs : pid S = true) : PI M1 c a x r q e := by
  unfold pid at hs
  rw [Bool.and_eq_true] at hs
  obtain ⟨s1, s2⟩ := hs
  have g0 : ∀ f, f ∈ [35, 36, 42, 43, 45] → M1 63 f = M 63 f := fun f hf => g 63 f (by simpa using List.all_eq_true.mp s1 f hf)
  have g1 : ∀ c, c ∈ [81, 85, 86, 87, 88, 89, 90] → c < 114 → ∀ f, M1 c f = M c f := fun c hc hl f => g c f (nin hl (List.all_eq_true.mp s2 c hc) f)
  obtain ⟨F, fs, hG, hC, hR, h42, h43, hr, ha, hac, hh, hq, h45, h36⟩ := h
  refine ⟨F, fs, hG, fun k hk => ?_, ?_, ?_, ?_, hr, ha, ?_, ?_, ?_, ?_, ?_⟩
  · rw [g0 36 (by decide)] at hk
    rw [g1 81 (by decide) (by decide)]
    exact hC k hk
  · rw [g0 45 (by decide)]
    refine hR.congr (fun c' c1 c2 i _ => g1 c' ?_ (by omega) i) (fun i _ => g1 90 (by decide) (by decide) i)
    have : c' = 85 ∨ c' = 86 ∨ c' = 87 ∨ c' = 88 ∨ c' = 89 := by omega
    rcases this with rfl | rfl | rfl | rfl | rfl <;> decide
  · rw [g0 42 (by decide)]; exact h42
  · rw [g0 43 (by decide)]; exact h43
  · rw [g0 35 (by decide)]; exact hac
  · rw [g0 35 (by decide), g0 36 (by decide), hgt_congr (fun k _ _ => g1 81 (by decide) (by decide) k)]; exact hh
  · rw [g0 35 (by decide), g0 45 (by decide)]; exact hq
  · rw [g0 45 (by decide)]; exact h45
  · rw [g0 36 (by decide)]; exact h36
/-- the top frame's own places are changed -/
theorem PI.top {w : Nat} {f v : Int} (h : PI M c a x r q e) (hc : 85 ≤ w ∧ w ≤ 88) (hf : f = M 63 42 - 1) (u : Up M w f.toNat v M1) {x' : Nat} {r' : Int}
    (hF : ∀ F : pF, M 85 f.toNat = F.1 → M 86 f.toNat = F.2.1 → M 87 f.toNat = F.2.2.1 → M 88 f.toNat = F.2.2.2.1 → fOk F → (∀ o ∈ F.2.2.2.2, rk o < r) → ∃ F' : pF, F'.2.2.2.2 = F.2.2.2.2 ∧ F'.1 = (if w = 85 then v else F.1) ∧ F'.2.1 = (if w = 86 then v else F.2.1) ∧ F'.2.2.1 = (if w = 87 then v else F.2.2.1) ∧ F'.2.2.2.1 = (if w = 88 then v else F.2.2.2.1) ∧ fOk F' ∧ (F.1 < 2 → F'.1 < 2) ∧ (∀ o ∈ F.2.2.2.2, rk o < r') ∧ x' + (bins F.2.2.2.2 + comp F'.1 F'.2.2.2.1) = x + (bins F.2.2.2.2 + comp F.1 F.2.2.2.1)) : PI M1 c a x' r' q e := by
  obtain ⟨F, fs, hG, hC, hR, h42, h43, hr, ha, hac, hh, hq, h45, h36⟩ := h
  obtain ⟨r85, r86, r87, r88, b, r89, hn, hO, hok, hbot, hFs⟩ := hR
  have ef : f.toNat = fs.length := by omega
  rw [ef] at u hF
  obtain ⟨F', e1, e2, e3, e4, e5, e6, e7, e8, e9⟩ := hF F r85 r86 r87 r88 hok hr
  have g0 : ∀ k, M1 63 k = M 63 k := fun k => u.2 63 k (by omega)
  have g90 : ∀ k, M1 90 k = M 90 k := fun k => u.2 90 k (by omega)
  have g81 : ∀ k, M1 81 k = M 81 k := fun k => u.2 81 k (by omega)
  have gt : ∀ d, M1 d fs.length = if w = d then v else M d fs.length := by
    intro d
    split
    next g => subst g; exact u.1
    next g => exact u.2 d _ (by omega)
  refine ⟨F', fs, hG, fun k hk => ?_, ⟨?_, ?_, ?_, ?_, b, ?_, ?_, ?_, e6, fun z => e7 (hbot z), ?_⟩, ?_, ?_, ?_, ha, ?_, ?_, ?_, ?_, ?_⟩
  · rw [g0] at hk
    rw [g81]
    exact hC k hk
  · rw [gt, e2, r85]
  · rw [gt, e3, r86]
  · rw [gt, e4, r87]
  · rw [gt, e5, r88]
  · rw [gt, if_neg (by omega)]; exact r89
  · rw [g0, e1]; exact hn
  · rw [e1]; exact hO.congr (fun i _ => g90 i)
  · exact hFs.congr (fun d _ _ i hi => u.2 d i (by omega)) (fun i _ => g90 i)
  · rw [g0]; exact h42
  · rw [g0]
    unfold sumN at h43 ⊢
    rw [e1]; exact h43
  · rw [e1]; exact e8
  · rw [g0]; exact hac
  · rw [g0, g0, hgt_congr (fun k _ _ => g81 k), hh]
    congr 1
    unfold need
    rw [e1]
    omega
  · rw [g0, g0]; exact hq
  · rw [g0]; exact h45
  · rw [g0]; exact h36
theorem PI.begins0 {f : Int} (h : PI M c a x r q e) (hf : f = M 63 42 - 1) (u : Up M 87 f.toNat 0 M1) : PI M1 c a x r q e :=
  h.top (by decide) hf u (fun F _ _ _ _ ok hr => ⟨(F.1, F.2.1, 0, F.2.2.2.1, F.2.2.2.2), rfl, rfl, rfl, rfl, rfl, ⟨ok.1, ok.2.1, ok.2.2.1, fun z => absurd (show (0 : Int) = 1 from z) (by decide), ok.2.2.2.2.1, ok.2.2.2.2.2⟩, id, hr, rfl⟩)
theorem PI.begins1 {f : Int} (h : PI M c a x r q e) (h4 : r ≤ 4) (hf : f = M 63 42 - 1) (u : Up M 87 f.toNat 1 M1) : PI M1 c a x r q e :=
  h.top (by decide) hf u (fun F _ _ _ _ ok hr => ⟨(F.1, F.2.1, 1, F.2.2.2.1, F.2.2.2.2), rfl, rfl, rfl, rfl, rfl, ⟨ok.1, ok.2.1, ok.2.2.1, fun _ o ho => by have := hr o ho; omega, ok.2.2.2.2.1, ok.2.2.2.2.2⟩, id, hr, rfl⟩)
theorem PI.phase {f v : Int} (h : PI M c a x r q e) (h4 : v ≠ 0 ∨ r ≤ 4) (hf : f = M 63 42 - 1) (u : Up M 86 f.toNat v M1) : PI M1 c a x r q e :=
  h.top (by decide) hf u (fun F _ _ _ _ ok hr => ⟨(F.1, v, F.2.2.1, F.2.2.2.1, F.2.2.2.2), rfl, rfl, rfl, rfl, rfl, ⟨ok.1, ok.2.1, fun z o ho => by have := hr o ho; have z' : v = 0 := z; omega, ok.2.2.2.1, ok.2.2.2.2.1, ok.2.2.2.2.2⟩, id, hr, rfl⟩)
theorem PI.comma {f v : Int} (h : PI M c a 1 r q e) (hf : f = M 63 42 - 1) (hv : (M 85 f.toNat = 3 ∧ v = 4) ∨ (M 85 f.toNat = 6 ∧ v = 3)) (u : Up M 85 f.toNat v M1) : PI M1 c a 0 r q e := by
  refine h.top (x' := 0) (r' := r) (by decide) hf u (fun F r85 _ _ _ ok hr => ⟨(v, F.2.1, F.2.2.1, F.2.2.2.1, F.2.2.2.2), rfl, rfl, rfl, rfl, rfl, ⟨ok.1, ok.2.1, ok.2.2.1, ok.2.2.2.1, fun _ => ok.2.2.2.2.1 (by omega), fun z => ?_⟩, fun z => ?_, hr, ?_⟩)
  · have z' : v = 6 := z
    omega
  · omega
  · rw [r85] at hv
    have ok5 := ok.2.2.2.2.1 (by omega)
    have ok6 := ok.2.2.2.2.2
    rcases hv with ⟨g, rfl⟩ | ⟨g, rfl⟩
    · unfold comp
      rw [g]
      simp only [if_pos, if_neg (show ¬ (3 : Int) = 4 by decide)]
      split <;> omega
    · unfold comp
      rw [g, ok6 g]
      simp
      omega
theorem PI.opened {v d : Int} (h : PI M c a x r q e) (u : Up M 63 43 v M1) (hv : v = M 63 43 + d) : PI M1 c a x r q (e + d) := by
  obtain ⟨F, fs, hG, hC, hR, h42, h43, hr, ha, hac, hh, hq, h45, h36⟩ := h
  have g0 : ∀ k, k ≠ 43 → M1 63 k = M 63 k := fun k hk => u.2 63 k (by omega)
  refine ⟨F, fs, hG, fun k hk => ?_, ?_, ?_, ?_, hr, ha, ?_, ?_, ?_, ?_, ?_⟩
  · rw [g0 36 (by decide)] at hk
    rw [u.2 81 k (by omega)]
    exact hC k hk
  · rw [g0 45 (by decide)]
    exact hR.congr (fun c c1 c2 i _ => u.2 c i (by omega)) (fun i _ => u.2 90 i (by omega))
  · rw [g0 42 (by decide)]; exact h42
  · rw [u.1]; omega
  · rw [g0 35 (by decide)]; exact hac
  · rw [g0 35 (by decide), g0 36 (by decide), hgt_congr (fun k _ _ => u.2 81 k (by omega))]; exact hh
  · rw [g0 35 (by decide), g0 45 (by decide)]; exact hq
  · rw [g0 45 (by decide)]; exact h45
  · rw [g0 36 (by decide)]; exact h36
/-- a code is written -/
theorem PI.code {o : Int} {x' : Nat} (h : PI M c a x r q e) (g : Fr [(63, 35), (81, 99999), (82, 99999)] M M1) (h1 : M1 63 35 = M 63 35 + 1) (h2 : M1 81 (1600 * M 63 36 + M 63 35).toNat = o) (h3 : ∀ k, k ≠ (1600 * M 63 36 + M 63 35).toNat → M1 81 k = M 81 k) (hx : ∀ z : Nat, hgt M (1600 * M 63 36 + a).toNat (M 63 35 - a).toNat = some (x + z) → hstep o (x + z) = some (x' + z)) : PI M1 c a x' r (q + 1) e := by
  obtain ⟨F, fs, hG, hC, hR, h42, h43, hr, ha, hac, hh, hq, h45, h36⟩ := h
  have g0 : ∀ k, k ≠ 35 → M1 63 k = M 63 k := fun k hk => g 63 k (by
    cases hh : c_in [(63, 35), (81, 99999), (82, 99999)] 63 k with
    | false => rfl
    | true =>
      rcases c_in_mem.mp hh with z | ⟨p, z1, z2, z3⟩
      · omega
      · simp at z1
        rcases z1 with rfl | rfl | rfl <;> omega)
  have gr : ∀ d, 85 ≤ d → d ≤ 90 → ∀ i, M1 d i = M d i := fun d d1 d2 i => g d i (by
    have : d = 85 ∨ d = 86 ∨ d = 87 ∨ d = 88 ∨ d = 89 ∨ d = 90 := by omega
    rcases this with rfl | rfl | rfl | rfl | rfl | rfl <;> rfl)
  refine ⟨F, fs, hG, fun k hk => ?_, ?_, ?_, ?_, hr, ha, by omega, ?_, ?_, ?_, ?_⟩
  · rw [g0 36 (by decide)] at hk
    rw [h3 k (by omega)]
    exact hC k hk
  · rw [g0 45 (by decide)]
    exact hR.congr (fun c c1 c2 i _ => gr c c1 (by omega) i) (fun i _ => gr 90 (by decide) (by decide) i)
  · rw [g0 42 (by decide)]; exact h42
  · rw [g0 43 (by decide)]; exact h43
  · rw [g0 36 (by decide), h1, show (M 63 35 + 1 - a).toNat = (M 63 35 - a).toNat + 1 by omega]
    unfold hgt
    rw [hgt_congr (M := M) (M1 := M1) (fun k k1 k2 => h3 k (by omega)), hh, show (1600 * M 63 36 + a).toNat + (M 63 35 - a).toNat = (1600 * M 63 36 + M 63 35).toNat by omega, h2]
    exact hx _ hh
  · rw [h1, g0 45 (by decide)]; omega
  · rw [g0 45 (by decide)]; exact h45
  · rw [g0 36 (by decide)]; exact h36
theorem PI.codeV (h : PI M c a x r q e) {o : Int} (ho : o ≤ 9) (h7 : M 63 43 ≤ 7) (he : 0 ≤ e) (hx : x ≤ 3) (g : Fr [(63, 35), (81, 99999), (82, 99999)] M M1) (h1 : M1 63 35 = M 63 35 + 1) (h2 : M1 81 (1600 * M 63 36 + M 63 35).toNat = o) (h3 : ∀ k, k ≠ (1600 * M 63 36 + M 63 35).toNat → M1 81 k = M 81 k) : PI M1 c a (x + 1) r (q + 1) e := by
  refine h.code g h1 h2 h3 (fun z hz => ?_)
  obtain ⟨_, _, y, hy, hy2⟩ := h.small h7 he
  rw [hz] at hy2
  have : x + z = x + y := Option.some.inj hy2
  unfold hstep
  rw [if_pos ho, if_pos (by omega)]
  congr 1
  omega
theorem PI.codeB (h : PI M c a (x + 1) r q e) {o : Int} (ho : 9 < o ∧ o ≠ 22 ∧ o ≠ 23) (hx : 1 ≤ x) (g : Fr [(63, 35), (81, 99999), (82, 99999)] M M1) (h1 : M1 63 35 = M 63 35 + 1) (h2 : M1 81 (1600 * M 63 36 + M 63 35).toNat = o) (h3 : ∀ k, k ≠ (1600 * M 63 36 + M 63 35).toNat → M1 81 k = M 81 k) : PI M1 c a x r (q + 1) e := by
  refine h.code g h1 h2 h3 (fun z _ => ?_)
  unfold hstep
  rw [if_neg (by omega), if_neg ho.2.1, if_neg ho.2.2, if_pos (by omega)]
  congr 1
  omega
theorem PI.codeN (h : PI M c a x r q e) (hx : 1 ≤ x) (g : Fr [(63, 35), (81, 99999), (82, 99999)] M M1) (h1 : M1 63 35 = M 63 35 + 1) (h2 : M1 81 (1600 * M 63 36 + M 63 35).toNat = 22) (h3 : ∀ k, k ≠ (1600 * M 63 36 + M 63 35).toNat → M1 81 k = M 81 k) : PI M1 c a x r (q + 1) e := by
  refine h.code g h1 h2 h3 (fun z _ => ?_)
  unfold hstep
  rw [if_neg (by decide), if_pos rfl, if_pos (by omega)]
theorem PI.codeW (h : PI M c a (x + 2) r q e) (hx : 1 ≤ x) (g : Fr [(63, 35), (81, 99999), (82, 99999)] M M1) (h1 : M1 63 35 = M 63 35 + 1) (h2 : M1 81 (1600 * M 63 36 + M 63 35).toNat = 23) (h3 : ∀ k, k ≠ (1600 * M 63 36 + M 63 35).toNat → M1 81 k = M 81 k) : PI M1 c a x r (q + 1) e := by
  refine h.code g h1 h2 h3 (fun z _ => ?_)
  unfold hstep
  rw [if_neg (by decide), if_neg (by decide), if_pos rfl, if_pos (by omega)]
  congr 1
  omega
theorem PI.e_le (h : PI M c a x r q e) : e ≤ M 63 43 := by
  obtain ⟨F, fs, hG, hC, hR, h42, h43, hr, ha, hac, hh, hq, h45, h36⟩ := h
  omega
theorem PI.exit1 {f l : Int} (h : PI M c a x r q e) (hf : f = M 63 42 - 1) (hx : M 63 45 ≤ M 89 f.toNat) : PI M c a x l q e := by
  obtain ⟨F, fs, hG, hC, hR, h42, h43, hr, ha, hac, hh, hq, h45, h36⟩ := h
  refine ⟨F, fs, hG, hC, hR, h42, h43, ?_, ha, hac, hh, hq, h45, h36⟩
  obtain ⟨r85, r86, r87, r88, b, r89, hn, hO, hok, hbot, hFs⟩ := hR
  rw [show f.toNat = fs.length by omega, r89] at hx
  intro o ho
  have : F.2.2.2.2.length = 0 := by omega
  rw [List.length_eq_zero_iff.mp this] at ho
  cases ho
theorem PI.exit2 {f l v o : Int} (h : PI M c a x r q e) (hf : f = M 63 42 - 1) (hx : M 89 f.toNat < M 63 45) (hv : v = M 63 45 - 1) (ho : M 90 v.toNat = o) (hl : rk o < l) : PI M c a x l q e := by
  obtain ⟨F, fs, hG, hC, hR, h42, h43, hr, ha, hac, hh, hq, h45, h36⟩ := h
  refine ⟨F, fs, hG, hC, hR, h42, h43, ?_, ha, hac, hh, hq, h45, h36⟩
  obtain ⟨r85, r86, r87, r88, b, r89, hn, hO, hok, hbot, hFs⟩ := hR
  cases hF : F.2.2.2.2 with
  | nil => intro o ho; cases ho
  | cons o' os =>
    rw [hF] at hO hn
    rw [List.length_cons] at hn
    have e1 : M 90 (b + os.length) = o' := hO.1
    rw [show v.toNat = b + os.length by omega, e1] at ho
    subst ho
    have hs : srt (o' :: os) := hF ▸ hok.1
    intro y hy
    rcases List.mem_cons.mp hy with rfl | hy
    · exact hl
    · rcases hs.1 y hy with g | ⟨g1, g2⟩
      · omega
      · rw [g1, ← g2]; exact hl
theorem PI.drop {M2 : cM} {f v o : Int} (h : PI M c a x r q e) (hf : f = M 63 42 - 1) (hx : M 89 f.toNat < M 63 45) (hv : v = M 63 45 - 1) (u : Up M 63 45 v M2) (ho : M 90 v.toNat = o) : opOk o ∧ ((o = 22 ∧ PI M2 c a x r (q - 1) (e + 1)) ∨ (o ≠ 22 ∧ PI M2 c a (x + 1) r (q - 1) e)) := by
  obtain ⟨F, fs, hG, hC, hR, h42, h43, hr, ha, hac, hh, hq, h45, h36⟩ := h
  obtain ⟨r85, r86, r87, r88, b, r89, hn, hO, hok, hbot, hFs⟩ := hR
  rw [show f.toNat = fs.length by omega, r89] at hx
  obtain ⟨k, ph, bg, pr, ops⟩ := F
  dsimp only at *
  cases ops with
  | nil =>
    rw [List.length_nil] at hn
    omega
  | cons o' os =>
    rw [List.length_cons] at hn
    have e1 : M 90 (b + os.length) = o' := hO.1
    rw [show v.toNat = b + os.length by omega, e1] at ho
    subst ho
    obtain ⟨k1, k2, k3, k4, k5, k6⟩ := hok
    dsimp only at *
    have g0 : ∀ k, k ≠ 45 → M2 63 k = M 63 k := fun k hk => u.2 63 k (by omega)
    have gr : ∀ d, d ≠ 63 → ∀ i, M2 d i = M d i := fun d hd i => u.2 d i (by omega)
    refine ⟨k2 o' List.mem_cons_self, ?_⟩
    have key : ∀ (x' : Nat) (e' : Int), (((fs.length + sumN ((k, ph, bg, pr, o' :: os) :: fs) : Nat) : Int) + e = ((fs.length + sumN ((k, ph, bg, pr, os) :: fs) : Nat) : Int) + e') → x' + need ((k, ph, bg, pr, os) :: fs) = x + need ((k, ph, bg, pr, o' :: os) :: fs) → PI M2 c a x' r (q - 1) e' := by
      intro x' e' he hx'
      refine ⟨(k, ph, bg, pr, os), fs, hG, fun j hj => ?_, ⟨?_, ?_, ?_, ?_, b, ?_, ?_, ?_, ⟨k1.2, fun y hy => k2 y (List.mem_cons_of_mem _ hy), fun z y hy => k3 z y (List.mem_cons_of_mem _ hy), fun z y hy => k4 z y (List.mem_cons_of_mem _ hy), k5, k6⟩, hbot, ?_⟩, ?_, ?_, fun y hy => hr y (List.mem_cons_of_mem _ hy), ha, ?_, ?_, ?_, ?_, ?_⟩
      · rw [g0 36 (by decide)] at hj
        rw [gr 81 (by decide)]
        exact hC j hj
      · rw [gr 85 (by decide)]; exact r85
      · rw [gr 86 (by decide)]; exact r86
      · rw [gr 87 (by decide)]; exact r87
      · rw [gr 88 (by decide)]; exact r88
      · rw [gr 89 (by decide)]; exact r89
      · rw [u.1]
        show v.toNat = b + os.length
        omega
      · exact hO.2.congr (fun i _ => gr 90 (by decide) i)
      · exact hFs.congr (fun d d1 d2 i _ => gr d (by omega) i) (fun i _ => gr 90 (by decide) i)
      · rw [g0 42 (by decide)]; exact h42
      · rw [g0 43 (by decide)]; omega
      · rw [g0 35 (by decide)]; exact hac
      · rw [g0 35 (by decide), g0 36 (by decide), hgt_congr (fun k _ _ => gr 81 (by decide) k), hh, hx']
      · rw [g0 35 (by decide), u.1]; omega
      · rw [u.1]; omega
      · rw [g0 36 (by decide)]; exact h36
    by_cases e22 : o' = 22
    · refine Or.inl ⟨e22, key x (e + 1) ?_ ?_⟩
      · simp only [sumN, nots, if_pos e22]
        omega
      · simp only [need, bins, if_pos e22]
        omega
    · refine Or.inr ⟨e22, key (x + 1) e ?_ ?_⟩
      · simp only [sumN, nots, if_neg e22]
        omega
      · simp only [need, bins, if_neg e22]
        omega
theorem PI.popB {M2 M3 : cM} {f v o : Int} (h : PI M c a 1 r q e) (hf : f = M 63 42 - 1) (hx : M 89 f.toNat < M 63 45) (hv : v = M 63 45 - 1) (u : Up M 63 45 v M2) (ho : M2 90 v.toNat = o) (hne : o ≠ 22) (g : Fr [(63, 35), (81, 99999), (82, 99999)] M2 M3) (h1 : M3 63 35 = M2 63 35 + 1) (h2 : M3 81 (1600 * M2 63 36 + M2 63 35).toNat = o) (h3 : ∀ k, k ≠ (1600 * M2 63 36 + M2 63 35).toNat → M3 81 k = M2 81 k) : PI M3 c a 1 r q e := by
  rw [u.2 90 _ (by omega)] at ho
  obtain ⟨hk, hd⟩ := h.drop hf hx hv u ho
  have hd2 := (hd.resolve_left (fun z => hne z.1)).2
  have := hd2.codeB (o := o) (by unfold opOk at hk; omega) (by decide) g h1 h2 h3
  rw [show q - 1 + 1 = q by omega] at this
  exact this
theorem PI.popN {M2 M3 : cM} {f v : Int} (h : PI M c a 1 r q e) (hf : f = M 63 42 - 1) (hx : M 89 f.toNat < M 63 45) (hv : v = M 63 45 - 1) (u : Up M 63 45 v M2) (ho : M2 90 v.toNat = 22) (g : Fr [(63, 35), (81, 99999), (82, 99999)] M2 M3) (h1 : M3 63 35 = M2 63 35 + 1) (h2 : M3 81 (1600 * M2 63 36 + M2 63 35).toNat = 22) (h3 : ∀ k, k ≠ (1600 * M2 63 36 + M2 63 35).toNat → M3 81 k = M2 81 k) : PI M3 c a 1 r q (e + 1) := by
  rw [u.2 90 _ (by omega)] at ho
  obtain ⟨hk, hd⟩ := h.drop hf hx hv u ho
  have hd2 := (hd.resolve_right (fun z => z.1 rfl)).2
  have := hd2.codeN (by decide) g h1 h2 h3
  rw [show q - 1 + 1 = q by omega] at this
  exact this
/-- an operator is held back -/
theorem PI.hold {f o : Int} {x' : Nat} {e' : Int} (h : PI M c a x r q e) (hf : f = M 63 42 - 1) (hs : r ≤ rk o ∨ (o = 22 ∧ M 87 f.toNat = 1)) (hk : opOk o) (hp : rk o ≠ 4 ∨ M 86 f.toNat ≠ 0) (hb : rk o ≤ 3 ∨ M 87 f.toNat ≠ 1) (hx : (o = 22 ∧ x' = x ∧ e' = e - 1) ∨ (o ≠ 22 ∧ x' + 1 = x ∧ e' = e)) (g : Fr [(63, 45), (90, 99999)] M M1) (h1 : M1 63 45 = M 63 45 + 1) (h2 : M1 90 (M 63 45).toNat = o) (h3 : ∀ k, k ≠ (M 63 45).toNat → M1 90 k = M 90 k) : PI M1 c a x' (rk o + 1) (q + 1) e' := by
  obtain ⟨F, fs, hG, hC, hR, h42, h43, hr, ha, hac, hh, hq, h45, h36⟩ := h
  obtain ⟨r85, r86, r87, r88, b, r89, hn, hO, hok, hbot, hFs⟩ := hR
  rw [show f.toNat = fs.length by omega] at hs hp hb
  rw [r87] at hs hb
  rw [r86] at hp
  obtain ⟨k, ph, bg, pr, ops⟩ := F
  dsimp only at *
  obtain ⟨k1, k2, k3, k4, k5, k6⟩ := hok
  dsimp only at *
  have g0 : ∀ k, k ≠ 45 → M1 63 k = M 63 k := fun k hk => g 63 k (by
    cases hh : c_in [(63, 45), (90, 99999)] 63 k with
    | false => rfl
    | true =>
      rcases c_in_mem.mp hh with z | ⟨p, z1, z2, z3⟩
      · omega
      · simp at z1
        rcases z1 with rfl | rfl <;> omega)
  have gr : ∀ d, d ≠ 63 → d < 90 → ∀ i, M1 d i = M d i := fun d hd hd2 i => g d i (by
    cases hh : c_in [(63, 45), (90, 99999)] d i with
    | false => rfl
    | true =>
      rcases c_in_mem.mp hh with z | ⟨p, z1, z2, z3⟩
      · omega
      · simp at z1
        rcases z1 with rfl | rfl <;> omega)
  have hlt : ∀ y ∈ ops, rk y < rk o ∨ (y = 22 ∧ o = 22) := by
    intro y hy
    rcases hs with z | ⟨z1, z2⟩
    · have := hr y hy
      omega
    · have := k4 z2 y hy
      rw [z1, rk_22]
      by_cases z3 : rk y = 3
      · exact Or.inr ⟨rk_3 z3, rfl⟩
      · omega
  refine ⟨(k, ph, bg, pr, o :: ops), fs, hG, fun j hj => ?_, ⟨?_, ?_, ?_, ?_, b, ?_, ?_, ⟨?_, ?_⟩, ⟨⟨hlt, k1⟩, ?_, ?_, ?_, k5, k6⟩, hbot, ?_⟩, ?_, ?_, ?_, ha, ?_, ?_, ?_, ?_, ?_⟩
  · rw [g0 36 (by decide)] at hj
    rw [gr 81 (by decide) (by decide)]
    exact hC j hj
  · rw [gr 85 (by decide) (by decide)]; exact r85
  · rw [gr 86 (by decide) (by decide)]; exact r86
  · rw [gr 87 (by decide) (by decide)]; exact r87
  · rw [gr 88 (by decide) (by decide)]; exact r88
  · rw [gr 89 (by decide) (by decide)]; exact r89
  · rw [h1]
    show (M 63 45 + 1).toNat = b + (ops.length + 1)
    omega
  · rw [← h2]
    congr 1
    omega
  · exact hO.congr (fun i hi => h3 i (by omega))
  · intro y hy
    rcases List.mem_cons.mp hy with rfl | hy
    · exact hk
    · exact k2 y hy
  · intro z y hy
    rcases List.mem_cons.mp hy with rfl | hy
    · rcases hp with w | w
      · exact w
      · exact absurd z w
    · exact k3 z y hy
  · intro z y hy
    rcases List.mem_cons.mp hy with rfl | hy
    · rcases hb with w | w
      · exact w
      · exact absurd z w
    · exact k4 z y hy
  · exact hFs.congr (fun d d1 d2 i _ => gr d (by omega) (by omega) i) (fun i hi => h3 i (by omega))
  · rw [g0 42 (by decide)]; exact h42
  · rw [g0 43 (by decide), h43]
    rcases hx with ⟨z1, _, z3⟩ | ⟨z1, _, z3⟩
    · simp only [sumN, nots, if_pos z1]
      omega
    · simp only [sumN, nots, if_neg z1]
      omega
  · intro y hy
    rcases List.mem_cons.mp hy with rfl | hy
    · omega
    · rcases hlt y hy with w | ⟨w1, w2⟩
      · omega
      · rw [w1, w2]; omega
  · rw [g0 35 (by decide)]; exact hac
  · rw [g0 35 (by decide), g0 36 (by decide), hgt_congr (fun k _ _ => gr 81 (by decide) (by decide) k), hh]
    congr 1
    rcases hx with ⟨z1, z2, _⟩ | ⟨z1, z2, _⟩
    · simp only [need, bins, if_pos z1]
      omega
    · simp only [need, bins, if_neg z1]
      omega
  · rw [g0 35 (by decide), h1]; omega
  · rw [h1]; omega
  · rw [g0 36 (by decide)]; exact h36
/-- what pushes does -/
def Pu (M M1 : cM) (k : Int) : Prop := M1 63 42 = M 63 42 + 1 ∧ M1 85 (M 63 42).toNat = k ∧ M1 86 (M 63 42).toNat = 0 ∧ M1 87 (M 63 42).toNat = 1 ∧ M1 89 (M 63 42).toNat = M 63 45 ∧ (∀ w i, i ≠ (M 63 42).toNat → 85 ≤ w → w ≤ 89 → M1 w i = M w i) ∧ M1 88 (M 63 42).toNat = M 88 (M 63 42).toNat
def PQ (M : cM) (c : Nat → Int) (a q k : Int) : Prop := ∀ (P : Int) (M2 : cM), Up M 88 (M 63 42 - 1).toNat P M2 → (k = 2 ∨ k = 5 ∨ (k = 3 ∧ (P = 15 ∨ P = 16)) ∨ (k = 6 ∧ P = 23)) → PI M2 c a 0 7 q 0
theorem PQ.id {k : Int} (h : PQ M c a q k) (hk : k = 2 ∨ k = 5) : PI M c a 0 7 q 0 := h _ M ⟨rfl, fun _ _ _ => rfl⟩ (by omega)
theorem PI.push {k f : Int} (h : PI M c a 0 r q 1) (hf : f = M 63 42 - 1) (hb : M 87 f.toNat = 0) (g : Fr [(63, 42), (85, 99999), (86, 99999), (87, 99999), (89, 99999)] M M1) (hu : Pu M M1 k) : PQ M1 c a (q + 1) k := by
  obtain ⟨F, fs, hG, hC, hR, h42, h43, hr, ha, hac, hh, hq, h45, h36⟩ := h
  intro P M2 u hk
  obtain ⟨p1, p2, p3, p4, p5, p6, p7⟩ := hu
  have hd : (M 63 42).toNat = (F :: fs).length := by rw [List.length_cons]; omega
  rw [hd] at p2 p3 p4 p5 p6 p7
  rw [show (M1 63 42 - 1).toNat = (F :: fs).length by omega] at u
  have g0 : ∀ k, k ≠ 42 → M2 63 k = M 63 k := fun k hk => (u.2 63 k (by omega)).trans (g 63 k (by
    cases hh : c_in [(63, 42), (85, 99999), (86, 99999), (87, 99999), (89, 99999)] 63 k with
    | false => rfl
    | true =>
      rcases c_in_mem.mp hh with z | ⟨p, z1, z2, z3⟩
      · omega
      · simp at z1
        rcases z1 with rfl | rfl | rfl | rfl | rfl <;> omega))
  have g42 : M2 63 42 = M 63 42 + 1 := (u.2 63 42 (by omega)).trans p1
  have g90 : ∀ i, M2 90 i = M 90 i := fun i => (u.2 90 i (by omega)).trans (g 90 i rfl)
  have g81 : ∀ i, M2 81 i = M 81 i := fun i => (u.2 81 i (by omega)).trans (g 81 i rfl)
  have gl : ∀ w, 85 ≤ w → w ≤ 89 → ∀ i, i < (F :: fs).length → M2 w i = M w i := fun w w1 w2 i hi => (u.2 w i (by omega)).trans (p6 w i (by omega) w1 w2)
  have hR' : RepF M2 (F :: fs) (M 63 45).toNat := hR.congr (fun w w1 w2 i hi => gl w w1 w2 i hi) (fun i _ => g90 i)
  have hF0 : F.2.2.1 = 0 := by
    rw [← hR.2.2.1, ← hb]
    congr 1
    omega
  refine ⟨(k, 0, 1, P, []), F :: fs, ?_, fun j hj => ?_, ⟨?_, ?_, ?_, ?_, (M 63 45).toNat, ?_, ?_, trivial, ⟨trivial, fun y hy => (by cases hy), fun _ y hy => (by cases hy), fun _ y hy => (by cases hy), ?_, ?_⟩, fun z => (by cases z), hR'⟩, ?_, ?_, fun y hy => (by cases hy), ha, ?_, ?_, ?_, ?_, ?_⟩
  · intro G hg
    rcases List.mem_cons.mp hg with rfl | hg
    · exact hF0
    · exact hG G hg
  · rw [g0 36 (by decide)] at hj
    rw [g81]
    exact hC j hj
  · rw [u.2 85 _ (by omega)]; exact p2
  · rw [u.2 86 _ (by omega)]; exact p3
  · rw [u.2 87 _ (by omega)]; exact p4
  · exact u.1
  · rw [u.2 89 _ (by omega), p5]; omega
  · rw [g0 45 (by decide)]; rfl
  · show (k = 3 ∨ k = 4 ∨ k = 6) → P = 15 ∨ P = 16 ∨ P = 23
    omega
  · show k = 6 → P = 23
    omega
  · rw [g42, h42, List.length_cons]; omega
  · rw [g0 43 (by decide), h43]
    show _ = ((((F :: fs).length + (0 + sumN (F :: fs)) : Nat)) : Int) + 0
    rw [List.length_cons]
    omega
  · rw [g0 35 (by decide)]; exact hac
  · rw [g0 35 (by decide), g0 36 (by decide), hgt_congr (fun k _ _ => g81 k), hh]
    congr 1
    show 0 + need (F :: fs) = 0 + (0 + comp k P + need (F :: fs))
    have : comp k P = 0 := by
      unfold comp
      rcases hk with z | z | ⟨z, z2⟩ | ⟨z, z2⟩
      · rw [z]; rfl
      · rw [z]; rfl
      · rw [z, if_neg (by decide), if_pos rfl, if_neg (by omega)]
      · rw [z]; rfl
    omega
  · rw [g0 35 (by decide), g0 45 (by decide), List.length_cons]; omega
  · rw [g0 45 (by decide)]; exact h45
  · rw [g0 36 (by decide)]; exact h36
theorem PI.close {k f v : Int} (h : PI M c a 1 r q e) (h1 : r ≤ 1) (hf : f = M 63 42 - 1) (hk : M 85 f.toNat = k) (hk2 : 2 ≤ k) (u : Up M 63 42 v M1) (hv : v = M 63 42 - 1) : PI M1 c a (1 + comp k (M 88 f.toNat)) 7 (q - 1) (e + 1) ∧ M1 87 (M1 63 42 - 1).toNat = 0 ∧ 1 ≤ M1 63 42 ∧ (k = 4 → M 88 f.toNat = 15 ∨ M 88 f.toNat = 16 ∨ M 88 f.toNat = 23) := by
  obtain ⟨F, fs, hG, hC, hR, h42, h43, hr, ha, hac, hh, hq, h45, h36⟩ := h
  obtain ⟨r85, r86, r87, r88, b, r89, hn, hO, hok, hbot, hFs⟩ := hR
  rw [show f.toNat = fs.length by omega] at hk ⊢
  rw [r88]
  rw [r85] at hk
  have hne : F.2.2.2.2 = [] := by
    cases hF : F.2.2.2.2 with
    | nil => rfl
    | cons o os =>
      have := hr o (by rw [hF]; exact List.mem_cons_self)
      have := rk_rng o
      omega
  obtain ⟨k0, ph, bg, pr, ops⟩ := F
  dsimp only at *
  subst hne
  subst hk
  cases fs with
  | nil => exact absurd (hbot rfl) (by omega)
  | cons G gs =>
    have hG0 := hG G List.mem_cons_self
    have g0 : ∀ k, k ≠ 42 → M1 63 k = M 63 k := fun k hk => u.2 63 k (by omega)
    have gr : ∀ d, d ≠ 63 → ∀ i, M1 d i = M d i := fun d hd i => u.2 d i (by omega)
    rw [List.length_cons] at h42 hq h43
    have hb : b = (M 63 45).toNat := by rw [hn]; rfl
    subst hb
    refine ⟨⟨G, gs, fun G' hg' => hG G' (List.mem_cons_of_mem _ hg'), fun j hj => ?_, ?_, ?_, ?_, fun y _ => by have := rk_rng y; omega, ha, ?_, ?_, ?_, ?_, ?_⟩, ?_, ?_, fun z => hok.2.2.2.2.1 (Or.inr (Or.inl z))⟩
    · rw [g0 36 (by decide)] at hj
      rw [gr 81 (by decide)]
      exact hC j hj
    · rw [g0 45 (by decide)]
      exact hFs.congr (fun d d1 d2 i _ => gr d (by omega) i) (fun i _ => gr 90 (by decide) i)
    · rw [u.1]; omega
    · rw [g0 43 (by decide), h43]
      show ((gs.length + 1 + (0 + sumN (G :: gs)) : Nat) : Int) + e = _
      omega
    · rw [g0 35 (by decide)]; exact hac
    · rw [g0 35 (by decide), g0 36 (by decide), hgt_congr (fun k _ _ => gr 81 (by decide) k), hh]
      congr 1
      show 1 + (0 + comp k0 pr + need (G :: gs)) = _
      omega
    · rw [g0 35 (by decide), g0 45 (by decide)]; omega
    · rw [g0 45 (by decide)]; exact h45
    · rw [g0 36 (by decide)]; exact h36
    · rw [u.1, show (v - 1).toNat = gs.length by omega, gr 87 (by decide)]
      rw [← hG0]
      exact hFs.2.2.1
    · rw [u.1]; omega
theorem PI.init (h42 : M 63 42 = 1) (h43 : M 63 43 = 0) (h45 : M 63 45 = 0) (h85 : M 85 0 < 2) (h89 : M 89 0 = 0) (h35 : 0 ≤ M 63 35) (h36 : 0 ≤ M 63 36) (hq : M 63 35 ≤ q) (hC : ∀ k, k < (1600 * M 63 36 + M 63 35).toNat → M 81 k = c k) : PI M c (M 63 35) 0 7 q 0 := by
  refine ⟨(M 85 0, M 86 0, M 87 0, M 88 0, []), [], fun G hg => (by cases hg), hC, ⟨rfl, rfl, rfl, rfl, 0, h89, ?_, trivial, ⟨trivial, fun y hy => (by cases hy), fun _ y hy => (by cases hy), fun _ y hy => (by cases hy), fun z => ?_, fun z => ?_⟩, fun _ => h85, rfl⟩, ?_, ?_, fun y hy => (by cases hy), h35, Int.le_refl _, ?_, ?_, ?_, h36⟩
  · rw [h45]; rfl
  · have z' : M 85 0 = 3 ∨ M 85 0 = 4 ∨ M 85 0 = 6 := z
    omega
  · have z' : M 85 0 = 6 := z
    omega
  · exact h42
  · rw [h43]; rfl
  · rw [Int.sub_self]
    show some 0 = some (0 + (0 + comp (M 85 0) (M 88 0) + 0))
    have : comp (M 85 0) (M 88 0) = 0 := by
      unfold comp
      rw [if_neg (by omega), if_neg (by omega)]
    rw [this]
  · rw [h45]
    show M 63 35 + 0 + ((0 : Nat) : Int) ≤ q
    omega
  · rw [h45]; exact Int.le_refl _
end PIS
