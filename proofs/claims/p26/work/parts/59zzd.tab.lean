/-! tables of ways: scattered forward, pulled back -/
section TAB
variable {a idx : Int → Int} {m N : Nat} {fr al : Int → Int → Int} {A : Int → Int} {p r s t : Int}
/-- ways from the first k states into a state -/
def yH (a idx : Int → Int) (fr : Int → Int → Int) (A : Int → Int) (p r t : Int) (k : Nat) : Int := pSum (fun s => if yN a idx fr p r s = t then A s else 0) k
/-- the rooms before r, and in r the states before s -/
def yC (a idx : Int → Int) (fr al : Int → Int → Int) (m : Nat) (A : Int → Int) (p r s t : Int) : Int := pSum (fun q => if al p q = 1 then yH a idx fr A p q t (pPr a m).toNat else 0) r.toNat + yH a idx fr A p r t s.toNat
theorem yH_full (h : Rdx a idx m) (hf : fr p r ≠ 1 → idx r ≠ -1) (h0 : 0 ≤ t) (h1 : t < pPr a m) : yH a idx fr A p r t (pPr a m).toNat = yG a idx fr A p r t := by
  have g := yG_N h (A := A) (b := fun x => if x = t then 1 else 0) (p := p) (r := r) (fr := fr) hf
  have e1 : pSum (fun s => yG a idx fr A p r s * (fun x => if x = t then 1 else 0) s) (pPr a m).toNat = yG a idx fr A p r t := by
    rw [pSum_one (k := t) h0 (by omega)]
    · show _ * (if t = t then (1 : Int) else 0) = _
      rw [if_pos rfl, Int.mul_one]
    · intro x _ _ x2
      show _ * (if x = t then (1 : Int) else 0) = 0
      rw [if_neg x2, Int.mul_zero]
  rw [← e1, g]
  refine pSum_eq _ (fun x _ _ => ?_)
  show (if yN a idx fr p r x = t then A x else 0) = if yN a idx fr p r x = -1 then 0 else A x * (if yN a idx fr p r x = t then (1 : Int) else 0)
  by_cases e : yN a idx fr p r x = t
  · rw [if_pos e, if_neg (by omega), if_pos e, Int.mul_one]
  · rw [if_neg e, if_neg e, Int.mul_zero]
    split <;> rfl
theorem yC_full (h : Rdx a idx m) (hf : ∀ p r, fr p r ≠ 1 → idx r ≠ -1) {k : Nat} (hp : p = k) (h0 : 0 ≤ t) (h1 : t < pPr a m) (hr : r.toNat = N) : yC a idx fr al m (yA a idx fr al N k) p r 0 t = yA a idx fr al N (k + 1) t := by
  subst hp
  show pSum _ r.toNat + 0 = pSum (fun r => if al k r = 1 then yG a idx fr (yA a idx fr al N k) k r t else 0) N
  rw [Int.add_zero, hr]
  refine pSum_eq _ (fun x _ _ => ?_)
  try dsimp only
  by_cases e : al k x = 1
  · rw [if_pos e, if_pos e, yH_full h (hf _ _) h0 h1]
  · rw [if_neg e, if_neg e]
theorem yC_S (h0 : 0 ≤ s) : yC a idx fr al m A p r (s + 1) t = yC a idx fr al m A p r s t + (if yN a idx fr p r s = t then A s else 0) := by
  unfold yC
  rw [show (s + 1).toNat = s.toNat + 1 by omega]
  show _ + (yH a idx fr A p r t s.toNat + (if yN a idx fr p r ((s.toNat : Nat) : Int) = t then A ((s.toNat : Nat) : Int) else 0)) = _
  rw [show ((s.toNat : Nat) : Int) = s by omega, Int.add_assoc]
theorem yC_R (h0 : 0 ≤ r) (hs : s = pPr a m) (ha : al p r = 1) : yC a idx fr al m A p (r + 1) 0 t = yC a idx fr al m A p r s t := by
  subst hs
  unfold yC
  rw [show (r + 1).toNat = r.toNat + 1 by omega]
  show pSum _ r.toNat + (if al p ((r.toNat : Nat) : Int) = 1 then yH a idx fr A p ((r.toNat : Nat) : Int) t (pPr a m).toNat else 0) + 0 = _
  rw [show ((r.toNat : Nat) : Int) = r by omega, if_pos ha, Int.add_zero]
theorem yC_R0 (h0 : 0 ≤ r) (ha : al p r ≠ 1) : yC a idx fr al m A p (r + 1) 0 t = yC a idx fr al m A p r 0 t := by
  unfold yC
  rw [show (r + 1).toNat = r.toNat + 1 by omega]
  show pSum _ r.toNat + (if al p ((r.toNat : Nat) : Int) = 1 then yH a idx fr A p ((r.toNat : Nat) : Int) t (pPr a m).toNat else 0) + 0 = pSum _ r.toNat + 0
  rw [show ((r.toNat : Nat) : Int) = r by omega, if_neg ha, Int.add_zero]
theorem yC_0 : yC a idx fr al m A p 0 0 t = 0 := rfl
/-- what the others may do doesn't hang on what one may -/
theorem yA_al {al al' : Int → Int → Int} : ∀ {k : Nat}, (∀ q : Int, 0 ≤ q → q < k → ∀ x, al q x = al' q x) → ∀ s, yA a idx fr al N k s = yA a idx fr al' N k s
  | 0, _, _ => rfl
  | k + 1, h, s => by
    have ih := yA_al (k := k) (fun q q0 q1 => h q q0 (by omega))
    have e : yA a idx fr al N k = yA a idx fr al' N k := funext ih
    show pSum (fun r => if al k r = 1 then yG a idx fr (yA a idx fr al N k) k r s else 0) N = pSum (fun r => if al' k r = 1 then yG a idx fr (yA a idx fr al' N k) k r s else 0) N
    rw [e]
    refine pSum_eq _ (fun x _ _ => ?_)
    try dsimp only
    rw [h k (by omega) (by omega)]
theorem yB_al {al al' : Int → Int → Int} {n : Int} : ∀ {k : Nat}, (∀ q : Int, n - k ≤ q → q < n → ∀ x, al q x = al' q x) → ∀ s, yB a idx fr al N m n k s = yB a idx fr al' N m n k s
  | 0, _, _ => rfl
  | k + 1, h, s => by
    have ih := yB_al (k := k) (n := n) (al := al) (al' := al') (fun q q0 q1 => h q (by omega) q1)
    show pSum (fun r => if al (n - k - 1) r = 1 then (if yN a idx fr (n - k - 1) r s = -1 then 0 else yB a idx fr al N m n k (yN a idx fr (n - k - 1) r s)) else 0) N = pSum (fun r => if al' (n - k - 1) r = 1 then (if yN a idx fr (n - k - 1) r s = -1 then 0 else yB a idx fr al' N m n k (yN a idx fr (n - k - 1) r s)) else 0) N
    refine pSum_eq _ (fun x _ _ => ?_)
    try dsimp only
    rw [h (n - k - 1) (by omega) (by omega), ih]
/-- one more person: pulled -/
def yT (a idx : Int → Int) (fr : Int → Int → Int) (B : Int → Int) (p r s : Int) : Int := if yN a idx fr p r s = -1 then 0 else B (yN a idx fr p r s)
def yV (a idx : Int → Int) (fr : Int → Int → Int) (A B : Int → Int) (p r : Int) (k : Nat) : Int := pSum (fun s => if yN a idx fr p r s = -1 then 0 else A s * B (yN a idx fr p r s)) k
theorem yV_S {B : Int → Int} (h0 : 0 ≤ s) : yV a idx fr A B p r (s + 1).toNat = yV a idx fr A B p r s.toNat + (if yN a idx fr p r s = -1 then 0 else A s * B (yN a idx fr p r s)) := by
  rw [show (s + 1).toNat = s.toNat + 1 by omega]
  show yV a idx fr A B p r s.toNat + (if yN a idx fr p r ((s.toNat : Nat) : Int) = -1 then 0 else A ((s.toNat : Nat) : Int) * B (yN a idx fr p r ((s.toNat : Nat) : Int))) = _
  rw [show ((s.toNat : Nat) : Int) = s by omega]
/-- all ways: from nobody on -/
theorem yB_tot (h : Rdx a idx m) (hf : ∀ p r, fr p r ≠ 1 → idx r ≠ -1) (n : Nat) : yB a idx fr al N m n n 0 = yA a idx fr al N n (pPr a m - 1) := by
  have hS := pPr_pos h.1 m
  rw [← ydual h hf n 0 (by omega), pSum_one (k := 0) (by omega) (by omega)]
  · show _ = (if (0 : Int) = 0 then (1 : Int) else 0) * _
    rw [if_pos rfl, Int.one_mul]
  · intro x _ _ x2
    show (if x = 0 then (1 : Int) else 0) * _ = 0
    rw [if_neg x2, Int.zero_mul]
/-- the ways in which one is in one room -/
theorem yV_one (h : Rdx a idx m) (hf : ∀ p r, fr p r ≠ 1 → idx r ≠ -1) {n k q : Nat} (hq : q + (k + 1) = n) (hp : p = q) (h0 : 0 ≤ r) (h1 : r < N) : yV a idx fr (yA a idx fr alA N q) (yB a idx fr alA N m n k) p r (pPr a m).toNat = yA a idx fr (alO p r) N n (pPr a m - 1) := by
  subst hp
  rw [← ydual h hf (k + 1) q hq]
  have e1 : yA a idx fr (alO q r) N q = yA a idx fr alA N q := funext (yA_al (fun x _ _ y => by
    unfold alO alA
    rw [if_neg (by omega)]))
  have e2 : yB a idx fr (alO q r) N m n k = yB a idx fr alA N m n k := funext (yB_al (fun x _ _ y => by
    unfold alO alA
    rw [if_neg (by omega)]))
  refine pSum_eq _ (fun x _ _ => ?_)
  show (if yN a idx fr q r x = -1 then 0 else yA a idx fr alA N q x * yB a idx fr alA N m n k (yN a idx fr q r x)) = yA a idx fr (alO q r) N q x * pSum (fun y => if alO q r ((n : Int) - k - 1) y = 1 then (if yN a idx fr ((n : Int) - k - 1) y x = -1 then 0 else yB a idx fr (alO q r) N m n k (yN a idx fr ((n : Int) - k - 1) y x)) else 0) N
  rw [e1, e2, show (n : Int) - k - 1 = q by omega, pSum_one (k := r) h0 h1]
  · have e3 : alO q r q r = 1 := by
      unfold alO
      rw [if_neg (by omega)]
    rw [if_pos e3]
    split
    · rw [Int.mul_zero]
    · rfl
  · intro y _ _ y2
    have e3 : alO q r q y ≠ 1 := by
      unfold alO
      rw [if_pos ⟨rfl, y2⟩]
      decide
    exact if_neg e3
theorem yB_S {n : Int} {k : Nat} (hp : p = n - k - 1) : yB a idx fr alA N m n (k + 1) s = pSum (fun x => yT a idx fr (yB a idx fr alA N m n k) p x s) N := by
  subst hp
  show pSum (fun r => if alA (n - k - 1) r = 1 then (if yN a idx fr (n - k - 1) r s = -1 then 0 else yB a idx fr alA N m n k (yN a idx fr (n - k - 1) r s)) else 0) N = _
  refine pSum_eq _ (fun x _ _ => ?_)
  exact if_pos rfl
end TAB
/-! the class's tables -/
def yA8 (D S : cM) (w : Int → Int) (p : Nat) (s : Int) : Int := yA (cAs w) (cIx w) (pFr D S w) alA (D 0 0).toNat p s
def yB8 (D S : cM) (w : Int → Int) (k : Nat) (s : Int) : Int := yB (cAs w) (cIx w) (pFr D S w) alA (D 0 0).toNat 8 (D 0 1) k s
def yC8 (D S : cM) (w : Int → Int) (p r s t : Int) : Int := yC (cAs w) (cIx w) (pFr D S w) alA 8 (yA8 D S w p.toNat) p r s t
def yN8 (D S : cM) (w : Int → Int) (p r s : Int) : Int := yN (cAs w) (cIx w) (pFr D S w) p r s
def yT8 (D S : cM) (w : Int → Int) (p r s : Int) : Int := yT (cAs w) (cIx w) (pFr D S w) (yB8 D S w (D 0 1 - 1 - p).toNat) p r s
def yV8 (D S : cM) (w : Int → Int) (p r : Int) (k : Nat) : Int := yV (cAs w) (cIx w) (pFr D S w) (yA8 D S w p.toNat) (yB8 D S w (D 0 1 - 1 - p).toNat) p r k
/-- ways to a state, person by person; in the making for one person -/
def BFR (D S : cM) (w : Int → Int) (p r s : Int) (M : cM) : Prop := ∀ q t : Int, 0 ≤ q → q < 8 → 0 ≤ t → t < pPr (cAs w) 8 → M 57 (q * 256 + t).toNat = wr32 (if q ≤ p then yA8 D S w q.toNat t else if q = p + 1 then yC8 D S w p r s t else 0)
def BFD (D S : cM) (w : Int → Int) (M : cM) : Prop := ∀ q t : Int, 0 ≤ q → q < D 0 1 → 0 ≤ t → t < pPr (cAs w) 8 → M 57 (q * 256 + t).toNat = wr32 (yA8 D S w q.toNat t)
/-- ways on from a state -/
def AFT (D S : cM) (w : Int → Int) (k : Int) (M : cM) : Prop := ∀ t : Int, 0 ≤ t → t < pPr (cAs w) 8 → M 58 t.toNat = wr32 (yB8 D S w k.toNat t)
def FRS (D S : cM) (w : Int → Int) (p r s : Int) (M : cM) : Prop := ∀ t : Int, 0 ≤ t → t < pPr (cAs w) 8 → M 59 t.toNat = wr32 (pSum (fun x => yT8 D S w p x t) r.toNat + (if t < s then yT8 D S w p r t else 0))
/-- ways in which one is in a room -/
def WIN (D S : cM) (w : Int → Int) (p r : Int) (M : cM) : Prop := ∀ q x : Int, 0 ≤ q → q < 8 → 0 ≤ x → x < 8 → M 60 (q * 8 + x).toNat = wr32 (if (p < q ∧ q < D 0 1 ∧ x < D 0 0) ∨ (q = p ∧ x < r) then yV8 D S w q x (pPr (cAs w) 8).toNat else 0)
section TB8
variable {D S M M1 : cM} {w : Int → Int} {p r s t x y z v k : Int} {f g : Nat}
theorem BFR.nx (h : BFR D S w p r s M) (hp : 0 ≤ p ∧ p < 7) (hs : 0 ≤ s ∧ s < pPr (cAs w) 8) (hS : pPr (cAs w) 8 ≤ 256) (hz : z = yN8 D S w p r s) (hz0 : 0 ≤ z ∧ z < pPr (cAs w) 8) (hf : f = ((p + 1) * 256 + z).toNat) (hg : g = (p * 256 + s).toNat) (hx : M 57 f = x) (hy : M 57 g = y) (u : Up M 57 f (tbP x y) M1) : BFR D S w p r (s + 1) M1 := by
  subst hf; subst hg
  intro q t q0 q1 t0 t1
  have e1 := h (p + 1) z (by omega) (by omega) hz0.1 hz0.2
  have e2 := h p s hp.1 (by omega) hs.1 hs.2
  rw [if_neg (by omega), if_pos rfl, hx] at e1
  rw [if_pos (by omega), hy] at e2
  by_cases e : q = p + 1
  · subst e
    rw [if_neg (by omega), if_pos rfl]
    have e3 : yC8 D S w p r (s + 1) t = yC8 D S w p r s t + (if yN8 D S w p r s = t then yA8 D S w p.toNat s else 0) := yC_S hs.1
    rw [e3]
    by_cases e4 : t = z
    · subst e4
      rw [u.1, e1, e2, wr_add, if_pos hz.symm]
    · rw [u.2 57 _ (by omega), if_neg (by omega), Int.add_zero]
      have := h (p + 1) t q0 q1 t0 t1
      rw [if_neg (by omega), if_pos rfl] at this
      exact this
  · rw [u.2 57 _ (by omega)]
    have := h q t q0 q1 t0 t1
    rw [this]
    by_cases e5 : q ≤ p
    · rw [if_pos e5, if_pos e5]
    · rw [if_neg e5, if_neg e5, if_neg e, if_neg e]
theorem BFR.no (h : BFR D S w p r s M) (hs : 0 ≤ s) (hz : yN8 D S w p r s = -1) : BFR D S w p r (s + 1) M := by
  intro q t q0 q1 t0 t1
  have e3 : yC8 D S w p r (s + 1) t = yC8 D S w p r s t + (if yN8 D S w p r s = t then yA8 D S w p.toNat s else 0) := yC_S hs
  rw [e3, if_neg (show ¬ yN8 D S w p r s = t by omega), Int.add_zero]
  exact h q t q0 q1 t0 t1
theorem BFR.rm (h : BFR D S w p r s M) (hr : 0 ≤ r) (hs : s = pPr (cAs w) 8) : BFR D S w p (r + 1) 0 M := by
  intro q t q0 q1 t0 t1
  have e3 : yC8 D S w p (r + 1) 0 t = yC8 D S w p r s t := yC_R hr hs rfl
  rw [e3]
  exact h q t q0 q1 t0 t1
theorem BFR.ps (hw : ∀ r, -1 ≤ w r) (h : BFR D S w p r 0 M) (hp : 0 ≤ p) (hr : r = D 0 0) : BFR D S w (p + 1) 0 0 M := by
  subst hr
  intro q t q0 q1 t0 t1
  rw [h q t q0 q1 t0 t1]
  by_cases e : q ≤ p
  · rw [if_pos e, if_pos (by omega)]
  · rw [if_neg e]
    by_cases e2 : q = p + 1
    · rw [if_pos e2, if_pos (by omega)]
      have e3 : yC8 D S w p (D 0 0) 0 t = yA8 D S w (p.toNat + 1) t := yC_full (rdxC hw) (frC w) (by omega) t0 t1 rfl
      rw [e3, show q.toNat = p.toNat + 1 by omega]
    · rw [if_neg e2, if_neg (by omega)]
      by_cases e3 : q = p + 1 + 1
      · rw [if_pos e3]
        rfl
      · rw [if_neg e3]
theorem BFR.st {M2 : cM} (hS : pPr (cAs w) 8 ≤ 256) (h : ∀ i : Nat, i < 2048 → M 57 i = 0) (u : Up M 57 f 1 M2) (hf : f = 0) : BFR D S w 0 0 0 M2 := by
  subst hf
  intro q t q0 q1 t0 t1
  by_cases e : q = 0
  · subst e
    rw [if_pos (by omega)]
    show _ = wr32 (if t = 0 then 1 else 0)
    by_cases e2 : t = 0
    · subst e2
      rw [if_pos rfl, wr_1]
      exact u.1
    · rw [if_neg e2, wr_0, u.2 57 _ (by omega)]
      exact h _ (by omega)
  · rw [if_neg (by omega), u.2 57 _ (by omega), h _ (by omega)]
    split
    · exact wr_0.symm
    · exact wr_0.symm
theorem BFR.en (h : BFR D S w p r s M) (hp : D 0 1 ≤ p + 1) (hn : D 0 1 ≤ 8) : BFD D S w M := by
  intro q t q0 q1 t0 t1
  have := h q t q0 (by omega) t0 t1
  rw [if_pos (by omega)] at this
  exact this
theorem BFD.fr {F : List (Nat × Nat)} (h : BFD D S w M) (g : Fr F M M1) (h5 : ∀ f, c_in F 57 f = false) : BFD D S w M1 := fun q t q0 q1 t0 t1 => (g 57 _ (h5 _)).trans (h q t q0 q1 t0 t1)
theorem BFD.up {k : Nat} (h : BFD D S w M) (u : Up M k f v M1) (hk : k ≠ 57) : BFD D S w M1 := fun q t q0 q1 t0 t1 => (u.2 57 _ (by omega)).trans (h q t q0 q1 t0 t1)
theorem AFT.fr {F : List (Nat × Nat)} (h : AFT D S w k M) (g : Fr F M M1) (h5 : ∀ f, c_in F 58 f = false) : AFT D S w k M1 := fun t t0 t1 => (g 58 _ (h5 _)).trans (h t t0 t1)
theorem AFT.up {c : Nat} (h : AFT D S w k M) (u : Up M c f v M1) (hk : c ≠ 58) : AFT D S w k M1 := fun t t0 t1 => (u.2 58 _ (by omega)).trans (h t t0 t1)
theorem AFT.st {M2 : cM} (h : ∀ i : Nat, i < 256 → M 58 i = 0) (hS : pPr (cAs w) 8 ≤ 256) (u : Up M 58 f 1 M2) (hf : f = (pPr (cAs w) 8 - 1).toNat) (hS1 : 1 ≤ pPr (cAs w) 8) : AFT D S w 0 M2 := by
  subst hf
  intro t t0 t1
  show _ = wr32 (if t = pPr (cAs w) 8 - 1 then 1 else 0)
  by_cases e : t = pPr (cAs w) 8 - 1
  · rw [if_pos e, wr_1, e]
    exact u.1
  · rw [if_neg e, wr_0, u.2 58 _ (by omega)]
    exact h _ (by omega)
theorem FRS.fr {F : List (Nat × Nat)} (h : FRS D S w p r s M) (g : Fr F M M1) (h5 : ∀ f, c_in F 59 f = false) : FRS D S w p r s M1 := fun t t0 t1 => (g 59 _ (h5 _)).trans (h t t0 t1)
theorem FRS.up {c : Nat} (h : FRS D S w p r s M) (u : Up M c f v M1) (hk : c ≠ 59) : FRS D S w p r s M1 := fun t t0 t1 => (u.2 59 _ (by omega)).trans (h t t0 t1)
theorem FRS.st (h : ∀ i : Nat, i < 256 → M 59 i = 0) (hS : pPr (cAs w) 8 ≤ 256) : FRS D S w p 0 0 M := by
  intro t t0 t1
  rw [h _ (by omega), if_neg (by omega)]
  exact wr_0.symm
theorem FRS.nx (h : FRS D S w p r s M) (hs : 0 ≤ s ∧ s < pPr (cAs w) 8) (hz : z = yN8 D S w p r s) (hz0 : z ≠ -1) (hb : wr32 (yB8 D S w (D 0 1 - 1 - p).toNat z) = y) (hf : f = s.toNat) (hx : M 59 f = x) (u : Up M 59 f (tbP x y) M1) : FRS D S w p r (s + 1) M1 := by
  subst hf
  intro t t0 t1
  by_cases e : t = s
  · subst e
    have e1 := h t t0 t1
    rw [if_neg (by omega), Int.add_zero, hx] at e1
    have e2 : yT8 D S w p r t = yB8 D S w (D 0 1 - 1 - p).toNat z := by
      unfold yT8 yT
      have e3 : yN (cAs w) (cIx w) (pFr D S w) p r t = z := hz.symm
      rw [e3, if_neg hz0]
    rw [u.1, if_pos (by omega), e2, ← wr_add, hb, e1]
  · rw [u.2 59 _ (by omega), h t t0 t1]
    by_cases e2 : t < s
    · rw [if_pos e2, if_pos (by omega)]
    · rw [if_neg e2, if_neg (by omega)]
theorem FRS.no (h : FRS D S w p r s M) (hs : 0 ≤ s) (hz : yN8 D S w p r s = -1) : FRS D S w p r (s + 1) M := by
  intro t t0 t1
  rw [h t t0 t1]
  by_cases e : t = s
  · subst e
    rw [if_neg (by omega), if_pos (by omega)]
    have e2 : yT8 D S w p r t = 0 := if_pos hz
    rw [e2]
  · by_cases e2 : t < s
    · rw [if_pos e2, if_pos (by omega)]
    · rw [if_neg e2, if_neg (by omega)]
theorem FRS.rm (h : FRS D S w p r s M) (hr : 0 ≤ r) (hs : pPr (cAs w) 8 ≤ s) : FRS D S w p (r + 1) 0 M := by
  intro t t0 t1
  rw [h t t0 t1, if_pos (by omega), if_neg (by omega), Int.add_zero, show (r + 1).toNat = r.toNat + 1 by omega]
  show _ = wr32 (pSum (fun x => yT8 D S w p x t) r.toNat + yT8 D S w p ((r.toNat : Nat) : Int) t)
  rw [show ((r.toNat : Nat) : Int) = r by omega]
theorem FRS.en (h : FRS D S w p r 0 M) (hr : r = D 0 0) (hp : 0 ≤ p ∧ p < D 0 1) (hk : k = D 0 1 - p) (hc : ∀ t : Int, 0 ≤ t → t < pPr (cAs w) 8 → M1 58 t.toNat = M 59 t.toNat) : AFT D S w k M1 := by
  subst hr; subst hk
  intro t t0 t1
  rw [hc t t0 t1, h t t0 t1, if_neg (by omega), Int.add_zero]
  have e : yB8 D S w (D 0 1 - p).toNat t = pSum (fun x => yT8 D S w p x t) (D 0 0).toNat := by
    rw [show (D 0 1 - p).toNat = (D 0 1 - 1 - p).toNat + 1 by omega]
    exact yB_S (by omega)
  rw [e]
/-- one state more -/
theorem yV_nx (hs : 0 ≤ s) (hz : z = yN8 D S w p r s) (hz0 : z ≠ -1) (hb : wr32 (yB8 D S w (D 0 1 - 1 - p).toNat z) = y) (ha : wr32 (yA8 D S w p.toNat s) = x) (h : v = wr32 (yV8 D S w p r s.toNat)) : tbP v (tbT x y) = wr32 (yV8 D S w p r (s + 1).toNat) := by
  have e : yV8 D S w p r (s + 1).toNat = yV8 D S w p r s.toNat + (if yN8 D S w p r s = -1 then 0 else yA8 D S w p.toNat s * yB8 D S w (D 0 1 - 1 - p).toNat (yN8 D S w p r s)) := yV_S hs
  rw [e, ← hz, if_neg hz0, ← wr_add, ← wr_mul, hb, ha, h]
theorem yV_no (hs : 0 ≤ s) (hz : yN8 D S w p r s = -1) (h : v = wr32 (yV8 D S w p r s.toNat)) : v = wr32 (yV8 D S w p r (s + 1).toNat) := by
  have e : yV8 D S w p r (s + 1).toNat = yV8 D S w p r s.toNat + (if yN8 D S w p r s = -1 then 0 else yA8 D S w p.toNat s * yB8 D S w (D 0 1 - 1 - p).toNat (yN8 D S w p r s)) := yV_S hs
  rw [e, if_pos hz, Int.add_zero, h]
theorem WIN.fr {F : List (Nat × Nat)} (h : WIN D S w p r M) (g : Fr F M M1) (h5 : ∀ f, c_in F 60 f = false) : WIN D S w p r M1 := fun q t q0 q1 t0 t1 => (g 60 _ (h5 _)).trans (h q t q0 q1 t0 t1)
theorem WIN.up {k : Nat} (h : WIN D S w p r M) (u : Up M k f v M1) (hk : k ≠ 60) : WIN D S w p r M1 := fun q t q0 q1 t0 t1 => (u.2 60 _ (by omega)).trans (h q t q0 q1 t0 t1)
theorem WIN.st (h : ∀ i : Nat, i < 64 → M 60 i = 0) (hp : p = D 0 1 - 1) : WIN D S w p 0 M := by
  intro q x q0 q1 x0 x1
  rw [h _ (by omega), if_neg (by omega)]
  exact wr_0.symm
theorem WIN.nx (h : WIN D S w p r M) (hp : 0 ≤ p ∧ p < D 0 1) (hr : 0 ≤ r ∧ r < D 0 0) (hr8 : r < 8) (hf : f = (p * 8 + r).toNat) (hs : s = pPr (cAs w) 8) (hv : v = wr32 (yV8 D S w p r s.toNat)) (u : Up M 60 f v M1) : WIN D S w p (r + 1) M1 := by
  subst hf; subst hs
  intro q x q0 q1 x0 x1
  by_cases e : q = p ∧ x = r
  · obtain ⟨e1, e2⟩ := e
    subst e1; subst e2
    rw [u.1, if_pos (by omega), hv]
  · rw [u.2 60 _ (by omega), h q x q0 q1 x0 x1]
    by_cases e2 : (p < q ∧ q < D 0 1 ∧ x < D 0 0) ∨ (q = p ∧ x < r)
    · rw [if_pos e2, if_pos (by omega)]
    · rw [if_neg e2, if_neg (by omega)]
theorem WIN.ps (h : WIN D S w p r M) (hp : 0 ≤ p ∧ p < D 0 1) (hr : r = D 0 0) : WIN D S w (p - 1) 0 M := by
  subst hr
  intro q x q0 q1 x0 x1
  rw [h q x q0 q1 x0 x1]
  by_cases e2 : (p < q ∧ q < D 0 1 ∧ x < D 0 0) ∨ (q = p ∧ x < D 0 0)
  · rw [if_pos e2, if_pos (by omega)]
  · rw [if_neg e2, if_neg (by omega)]
/-- behind all -/
theorem tot8 (hw : ∀ r, -1 ≤ w r) (hn : 0 ≤ D 0 1) (hN : 0 ≤ D 0 0 ∧ D 0 0 ≤ 8) (h : AFT D S w (D 0 1) M) : M 58 0 = wr32 (yW (pFr D S w) alA (D 0 0).toNat (D 0 1).toNat (vFl w)) := by
  have hS := pPr_pos (rdxC hw).1 8
  have e := h 0 (by omega) (by omega)
  rw [show (0 : Int).toNat = 0 from rfl] at e
  rw [e]
  have e1 : yB8 D S w (D 0 1).toNat 0 = yA (cAs w) (cIx w) (pFr D S w) alA (D 0 0).toNat (D 0 1).toNat (pPr (cAs w) 8 - 1) := by
    have := yB_tot (al := alA) (N := (D 0 0).toNat) (rdxC hw) (frC (D := D) (S := S) w) (D 0 1).toNat
    rw [show (((D 0 1).toNat : Nat) : Int) = D 0 1 by omega] at this
    exact this
  rw [e1, yA_W (rdxC hw) (by omega) (frC w) _ _ (by omega) (by omega), vC_full hw]
theorem win8 (hw : ∀ r, -1 ≤ w r) (hn : D 0 1 ≤ 8) (hN : D 0 0 ≤ 8) (h : WIN D S w (-1) 0 M) (hp : 0 ≤ p ∧ p < D 0 1) (hr : 0 ≤ r ∧ r < D 0 0) : M 60 (p * 8 + r).toNat = wr32 (yW (pFr D S w) (alO p r) (D 0 0).toNat (D 0 1).toNat (vFl w)) := by
  have hS := pPr_pos (rdxC hw).1 8
  have e := h p r hp.1 (by omega) hr.1 (by omega)
  rw [if_pos (Or.inl ⟨by omega, hp.2, hr.2⟩)] at e
  rw [e]
  have e1 : yV8 D S w p r (pPr (cAs w) 8).toNat = yA (cAs w) (cIx w) (pFr D S w) (alO p r) (D 0 0).toNat (D 0 1).toNat (pPr (cAs w) 8 - 1) := by
    have := yV_one (m := 8) (N := (D 0 0).toNat) (p := p) (r := r) (rdxC hw) (frC (D := D) (S := S) w) (n := (D 0 1).toNat) (k := (D 0 1 - 1 - p).toNat) (q := p.toNat) (by omega) (by omega) hr.1 (by omega)
    rw [← this]
    unfold yV8
    have e2 : yB8 D S w (D 0 1 - 1 - p).toNat = yB (cAs w) (cIx w) (pFr D S w) alA (D 0 0).toNat 8 (((D 0 1).toNat : Nat) : Int) (D 0 1 - 1 - p).toNat := by
      rw [show (((D 0 1).toNat : Nat) : Int) = D 0 1 by omega]
      rfl
    rw [e2]
    rfl
  rw [e1, yA_W (rdxC hw) (by omega) (frC w) _ _ (by omega) (by omega), vC_full hw]
end TB8
/-- behind a call of standing -/
def WHR (D S : cM) (w : Int → Int) (M : cM) : Prop := ∀ p r : Int, 0 ≤ p → p < D 0 1 → 0 ≤ r → r < D 0 0 → M 60 (p * 8 + r).toNat = wr32 (if pSum (cAs w) 8 ≤ D 0 1 then yW (pFr D S w) (alO p r) (D 0 0).toNat (D 0 1).toNat (vFl w) else 0)
def WHT (D S : cM) (w : Int → Int) : Int := if pSum (cAs w) 8 ≤ D 0 1 then yW (pFr D S w) alA (D 0 0).toNat (D 0 1).toNat (vFl w) else 0
theorem WHR.no {D S M : cM} {w : Int → Int} (hn : D 0 1 ≤ 8) (hN : D 0 0 ≤ 8) (h : WIN D S w (D 0 1 - 1) 0 M) (hs : D 0 1 < pSum (cAs w) 8) : WHR D S w M := by
  intro p r p0 p1 r0 r1
  rw [h p r p0 (by omega) r0 (by omega), if_neg (by omega), if_neg (by omega)]
theorem WHR.of {D S M : cM} {w : Int → Int} (hw : ∀ r, -1 ≤ w r) (hn : D 0 1 ≤ 8) (hN : D 0 0 ≤ 8) (h : WIN D S w (-1) 0 M) (hs : pSum (cAs w) 8 ≤ D 0 1) : WHR D S w M := by
  intro p r p0 p1 r0 r1
  rw [if_pos hs]
  exact win8 hw hn hN h ⟨p0, p1⟩ ⟨r0, r1⟩
/-- as the tape told it -/
def WHS (D S : cM) (s : Nat → Int) (R : Int) (T : Int → Int → Int) : Prop := ∀ p r : Int, 0 ≤ p → p < D 0 1 → 0 ≤ r → r < D 0 0 → T p r = wr32 (pWh D S s R p r)
theorem WHR.tl {D S M : cM} {s : Nat → Int} {R : Int} (h : WHR D S (pWt s R.toNat) M) (hs : DST s R) (h0 : 0 ≤ R) : WHS D S s R (fun p r => M 60 (p * 8 + r).toNat) := by
  intro p r p0 p1 r0 r1
  show M 60 (p * 8 + r).toNat = _
  rw [h p r p0 p1 r0 r1]
  unfold pWh
  rw [tot_eq hs R.toNat (by omega)]
theorem WHT.tl {D S : cM} {s : Nat → Int} {R : Int} (hs : DST s R) (h0 : 0 ≤ R) : WHT D S (pWt s R.toNat) = pTt D S s R := by
  unfold WHT pTt
  rw [tot_eq hs R.toNat (by omega)]
theorem WHR.up {D S M M1 : cM} {w : Int → Int} {k f : Nat} {v : Int} (h : WHR D S w M) (u : Up M k f v M1) (hk : k ≠ 60) : WHR D S w M1 := fun p r p0 p1 r0 r1 => (u.2 60 _ (by omega)).trans (h p r p0 p1 r0 r1)
def pSg (D S : cM) (s : Nat → Int) (n : Int) : Int := if pSo D s n = 1 then wr32 (pTt D S s (n / 2)) else -1
def pWq (D : cM) (told : Int) (T : Int → Int → Int) (p r : Int) : Int := if told = 1 ∧ (0 ≤ p ∧ p < D 0 1) ∧ (0 ≤ r ∧ r < D 0 0) then T p r else -1
