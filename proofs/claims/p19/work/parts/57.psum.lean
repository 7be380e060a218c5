/-! sums: a small machine with frames (the reference's way), and what the class's readers say of it -/
def owCd (s : Nat → Int) (n p : Int) : Int := if owW s n p 672503392 = 1 then -1 else if owW s n p 777297172 = 1 then -2 else if owW s n p 659111367 = 1 then -3 else if owW s n p 781325312 = 1 then -4 else if owW s n p 113741152 = 1 then -5 else if owW s n p 527892480 = 1 then -6 else 0
def owMx (s : Nat → Int) (n p : Int) : Int := if owW s n p 446103552 = 1 then 15 else if owW s n p 438042624 = 1 then 16 else if owW s n p 308281344 = 1 then 23 else 0
def owAo (s : Nat → Int) (n p : Int) : Int := if owG s n p 43 = 1 then 10 else if owG s n p 45 = 1 then 11 else if owG s n p 42 = 1 then 12 else if owG s n p 47 = 1 then 13 else if owG s n p 37 = 1 then 14 else 0
def owCo (s : Nat → Int) (n p : Int) : Int := if owG s n p 60 = 1 then 17 else if owG s n p 62 = 1 then 18 else if owG s n p 61 = 1 then 19 else 0
def owBo (s : Nat → Int) (n p : Int) : Int := if owW s n p 48365568 = 1 then 20 else if owW s n p 522190848 = 1 then 21 else 0
def pOp (fs : List pF) : Int := (fs.length : Int) - 1 + (sumN fs : Int)
abbrev pT (k : Int) : Prop := k = 1 ∨ k = 5 ∨ k = 6
abbrev pSs : Type := Int × List pF × List Int × Int
abbrev pRs : Type := Int × Int × List Int
def pJ (l : Int) : List Int → List Int → List Int × List Int
  | [], cs => ([], cs)
  | o :: os, cs => if l ≤ rk o then pJ l os ((3 - o) :: cs) else (o :: os, cs)
/-- an operand that is no test's beginning -/
def pOe (s : Nat → Int) (n : Int) (k ph bg pr : Int) (ops : List Int) (fs : List pF) (cs : List Int) (p : Int) : pSs ⊕ pRs :=
  if owG s n p 40 = 1 then
    (if pOp ((k, ph, bg, pr, ops) :: fs) = 7 then .inr (50000 + owB s n p, p, cs) else .inl (0, (2, 0, 1, 0, []) :: (k, ph, 0, pr, ops) :: fs, cs, owE s n p))
  else if owMx s n p ≠ 0 then
    (if owG s n (owE s n p) 40 = 0 then .inr (owU s n (owE s n p), p, cs)
    else if pOp ((k, ph, bg, pr, ops) :: fs) = 7 then .inr (50000 + owB s n (owE s n p), p, cs)
    else .inl (0, (if owMx s n p = 23 then 6 else 3, 0, 1, owMx s n p, []) :: (k, ph, 0, pr, ops) :: fs, cs, owE s n (owE s n p)))
  else if owK s n p = 3 then .inl (1, (k, ph, 0, pr, ops) :: fs, owV s n p :: cs, owE s n p)
  else if owCd s n p ≠ 0 then .inl (1, (k, ph, 0, pr, ops) :: fs, owCd s n p :: cs, owE s n p)
  else .inr (owU s n p, p, cs)
/-- an operand is read -/
def pOd (s : Nat → Int) (n : Int) (k ph bg pr : Int) (ops : List Int) (fs : List pF) (cs : List Int) (p : Int) : pSs ⊕ pRs :=
  if owK s n p = 5 then .inr (owU s n p, p, cs)
  else if (pT k ∧ bg = 1) ∧ owW s n p 486146048 = 1 then
    (if pOp ((k, ph, bg, pr, ops) :: fs) = 7 then .inr (50000 + owB s n p, p, cs) else .inl (0, (k, ph, bg, pr, 22 :: ops) :: fs, cs, owE s n p))
  else if (pT k ∧ bg = 1) ∧ owG s n p 91 = 1 then
    (if pOp ((k, ph, bg, pr, ops) :: fs) = 7 then .inr (50000 + owB s n p, p, cs) else .inl (0, (5, 0, 1, 0, []) :: (k, ph, 0, pr, ops) :: fs, cs, owE s n p))
  else if (pT k ∧ bg = 1) ∧ owW s n p 46530560 = 1 then .inl (1, (k, 2, 0, pr, ops) :: fs, 1 :: cs, owE s n p)
  else pOe s n k ph bg pr ops fs cs p
/-- what stands behind an operand -/
def pGo (s : Nat → Int) (n : Int) (k ph bg pr : Int) (ops : List Int) (fs : List pF) (cs : List Int) (p : Int) : pSs ⊕ pRs :=
  if owK s n p = 5 then .inr (owU s n p, p, cs)
  else if ph < 2 ∧ owAo s n p ≠ 0 then .inl (0, (k, ph, bg, pr, owAo s n p :: (pJ (if owAo s n p ≤ 11 then 5 else 6) ops cs).1) :: fs, (pJ (if owAo s n p ≤ 11 then 5 else 6) ops cs).2, owE s n p)
  else if (pT k ∧ ph = 0) ∧ owCo s n p ≠ 0 then .inl (0, (k, 1, bg, pr, owCo s n p :: (pJ 5 ops cs).1) :: fs, (pJ 5 ops cs).2, owE s n p)
  else if pT k ∧ owBo s n p ≠ 0 then
    (if ph = 0 then .inr (owU s n p, p, cs) else .inl (0, (k, 0, 1, pr, owBo s n p :: (pJ (if owBo s n p = 20 then 2 else 1) ops cs).1) :: fs, (pJ (if owBo s n p = 20 then 2 else 1) ops cs).2, owE s n p))
  else if pT k ∧ ph = 0 then .inr (owU s n p, p, cs)
  else if k < 2 then .inr (0, p, (pJ 1 ops cs).2)
  else if k = 3 ∨ k = 6 then
    (if owG s n p 44 = 0 then .inr (owU s n p, p, cs) else .inl (0, (if k = 3 then 4 else 3, 0, bg, pr, (pJ 1 ops cs).1) :: fs, (pJ 1 ops cs).2, owE s n p))
  else if owG s n p (if k = 5 then 93 else 41) = 0 then .inr (owU s n p, p, cs)
  else match fs with
    | [] => .inr (1, p, cs)
    | (k2, ph2, bg2, pr2, ops2) :: gs => .inl (1, (k2, if k = 5 then 2 else ph2, bg2, pr2, ops2) :: gs, if k = 4 then (3 - pr) :: (pJ 1 ops cs).2 else (pJ 1 ops cs).2, owE s n p)
def pSt (s : Nat → Int) (n : Int) : pSs → pSs ⊕ pRs
  | (o, [], cs, p) => .inr (1, p, cs)
  | (o, (k, ph, bg, pr, ops) :: fs, cs, p) => if o = 0 then pOd s n k ph bg pr ops fs cs p else pGo s n k ph bg pr ops fs cs p
def pRn (s : Nat → Int) (n : Int) : Nat → pSs → Option pRs
  | 0, _ => none
  | m + 1, σ => match pSt s n σ with
    | .inl τ => pRn s n m τ
    | .inr r => some r
def pGt (s : Nat → Int) (n : Int) (σ τ : pSs) : Prop := ∃ k, ∀ m, pRn s n (m + k) σ = pRn s n m τ
def pHl (s : Nat → Int) (n : Int) (σ : pSs) (r : pRs) : Prop := ∃ k, pRn s n k σ = some r
def pHf (s : Nat → Int) (n : Int) (σ : pSs) (f : Int) : Prop := ∃ q cs, pHl s n σ (f, q, cs)
section PM
variable {s : Nat → Int} {n : Int}
theorem pGt.refl (σ : pSs) : pGt s n σ σ := ⟨0, fun _ => rfl⟩
theorem pGt.trans {a b c : pSs} (h : pGt s n a b) (g : pGt s n b c) : pGt s n a c := by
  obtain ⟨k, hk⟩ := h
  obtain ⟨l, hl⟩ := g
  refine ⟨l + k, fun m => ?_⟩
  rw [← Nat.add_assoc, hk, hl]
theorem pGt.step {a b : pSs} (h : pSt s n a = .inl b) : pGt s n a b := ⟨1, fun m => by
  show (match pSt s n a with | .inl τ => pRn s n m τ | .inr r => some r) = _
  rw [h]⟩
theorem pHl.step {a : pSs} {r : pRs} (h : pSt s n a = .inr r) : pHl s n a r := ⟨1, by
  show (match pSt s n a with | .inl τ => pRn s n 0 τ | .inr r => some r) = _
  rw [h]⟩
theorem pHl.of {a b : pSs} {r : pRs} (h : pGt s n a b) (g : pHl s n b r) : pHl s n a r := by
  obtain ⟨k, hk⟩ := h
  obtain ⟨m, hm⟩ := g
  exact ⟨m + k, by rw [hk, hm]⟩
theorem pHf.of {a b : pSs} {f : Int} (h : pGt s n a b) (g : pHf s n b f) : pHf s n a f := by
  obtain ⟨q, cs, g⟩ := g
  exact ⟨q, cs, g.of h⟩
theorem pRn_mono : ∀ (k j : Nat) (σ : pSs) (r : pRs), pRn s n k σ = some r → pRn s n (k + j) σ = some r
  | 0, j, σ, r, h => by cases h
  | k + 1, j, σ, r, h => by
    rw [show k + 1 + j = (k + j) + 1 by omega]
    unfold pRn at h ⊢
    cases e : pSt s n σ with
    | inl τ =>
      rw [e] at h
      exact pRn_mono k j τ r h
    | inr q =>
      rw [e] at h
      exact h
theorem pHl.det {σ : pSs} {r q : pRs} (h : pHl s n σ r) (g : pHl s n σ q) : r = q := by
  obtain ⟨k, hk⟩ := h
  obtain ⟨l, hl⟩ := g
  have h1 := pRn_mono k l σ r hk
  have h2 := pRn_mono l k σ q hl
  rw [Nat.add_comm l k, h1] at h2
  exact Option.some.inj h2
def owEm (l : List Int) : List Int := (l.map fun o => 3 - o).reverse
theorem owEm_app (a b : List Int) : owEm (a ++ b) = owEm b ++ owEm a := by unfold owEm; rw [List.map_append, List.reverse_append]
theorem pJ_app {l : Int} : ∀ (pd ops cs : List Int), (∀ x ∈ pd, l ≤ rk x) → (∀ x ∈ ops, rk x < l) → pJ l (pd ++ ops) cs = (ops, owEm pd ++ cs)
  | [], ops, cs, _, h => by
    cases ops with
    | nil => rfl
    | cons o os =>
      show (if l ≤ rk o then _ else _) = _
      have := h o List.mem_cons_self
      rw [if_neg (by omega)]
      rfl
  | o :: pd, ops, cs, g, h => by
    show (if l ≤ rk o then pJ l (pd ++ ops) ((3 - o) :: cs) else _) = _
    rw [if_pos (g o List.mem_cons_self), pJ_app pd ops _ (fun x hx => g x (List.mem_cons_of_mem _ hx)) h]
    congr 1
    unfold owEm
    rw [List.map_cons, List.reverse_cons, List.append_assoc]
    rfl
theorem pJ_all (pd cs : List Int) : pJ 1 pd cs = ([], owEm pd ++ cs) := by
  have := pJ_app (l := 1) pd [] cs (fun x _ => (rk_rng x).1) (fun x hx => by cases hx)
  rw [List.append_nil] at this
  exact this
theorem nots_app : ∀ (a b : List Int), nots (a ++ b) = nots a + nots b
  | [], b => by show nots b = 0 + nots b; omega
  | o :: a, b => by
    show (if o = 22 then 1 else 0) + nots (a ++ b) = (if o = 22 then 1 else 0) + nots a + nots b
    rw [nots_app a b]
    omega
theorem nots_0 : ∀ (a : List Int), (∀ x ∈ a, rk x ≠ 3) → nots a = 0
  | [], _ => rfl
  | o :: a, h => by
    show (if o = 22 then 1 else 0) + nots a = 0
    have := h o List.mem_cons_self
    rw [nots_0 a (fun x hx => h x (List.mem_cons_of_mem _ hx)), if_neg (fun e => this (by rw [e]; decide))]
theorem pOp_cons {k ph bg pr : Int} {ops : List Int} {fs : List pF} : pOp ((k, ph, bg, pr, ops) :: fs) = (fs.length : Int) + (nots ops : Int) + (sumN fs : Int) := by
  unfold pOp
  rw [List.length_cons]
  show ((fs.length + 1 : Nat) : Int) - 1 + ((nots ops + sumN fs : Nat) : Int) = _
  omega
/-- only a sign, only a word -/
theorem owG_ne {p c d : Int} (h : owG s n p c = 1) (hd : c ≠ d) : owG s n p d = 0 := if_neg (fun g => by have := owG1 h; omega)
theorem owG_W {p c w : Int} (h : owG s n p c = 1) : owW s n p w = 0 := if_neg (fun g => by have := owG1 h; omega)
theorem owW_G {p c w : Int} (h : owW s n p w = 1) : owG s n p c = 0 := if_neg (fun g => by have := owW1 h; omega)
theorem owW_ne {p c d : Int} (h : owW s n p c = 1) (hd : c ≠ d) : owW s n p d = 0 := if_neg (fun g => by have := owW1 h; omega)
end PM
