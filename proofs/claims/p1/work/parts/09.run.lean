def x_eqI : Int → Int → Bool
  | .ofNat a, .ofNat b => Nat.beq a b
  | .negSucc a, .negSucc b => Nat.beq a b
  | _, _ => false
def x_eqO : Option Nat → Option Nat → Bool
  | none, none => true
  | some a, some b => Nat.beq a b
  | _, _ => false
def x_eqL {α : Type} (f : α → α → Bool) : List α → List α → Bool
  | [], [] => true
  | a :: l, b :: k => cond (f a b) (x_eqL f l k) false
  | _, _ => false
def x_eqV (a b : xV) : Bool := Nat.beq a.1 b.1 && (x_eqO a.2.1 b.2.1 && x_eqI a.2.2 b.2.2)
def x_eqN (a b : Nat × xV) : Bool := Nat.beq a.1 b.1 && x_eqV a.2 b.2
def x_eqC : xC → xC → Bool
  | .inl a, .inl b => Nat.beq a.1 b.1 && (Nat.beq a.2.1 b.2.1 && (x_eqI a.2.2.1 b.2.2.1 && (x_eqI a.2.2.2.1 b.2.2.2.1 && x_eqL x_eqN a.2.2.2.2 b.2.2.2.2)))
  | .inr a, .inr b => Nat.beq a.1 b.1 && x_eqL x_eqV a.2 b.2
  | _, _ => false
def x_eqE (a b : Int × Int) : Bool := x_eqI a.1 b.1 && x_eqI a.2 b.2
def x_eqF (a b : xF) : Bool := Nat.beq a.1 b.1 && (Nat.beq a.2.1 b.2.1 && (x_eqL x_eqN a.2.2.1 b.2.2.1 && (x_eqL x_eqV a.2.2.2.1 b.2.2.2.1 && (Nat.beq a.2.2.2.2.1 b.2.2.2.2.1 && Nat.beq a.2.2.2.2.2 b.2.2.2.2.2))))
def x_eqS (a b : xS) : Bool := x_eqL x_eqF a.1 b.1 && (x_eqL x_eqC a.2.1 b.2.1 && x_eqL x_eqE a.2.2 b.2.2)
theorem x_eqB {a b : Nat} (h : Nat.beq a b = true) : a = b := Nat.eq_of_beq_eq_true h
theorem x_eqI_ok {a b : Int} (h : x_eqI a b = true) : a = b := by
  cases a <;> cases b <;> simp only [x_eqI, Bool.false_eq_true] at h <;> rw [x_eqB h]
theorem x_eqO_ok {a b : Option Nat} (h : x_eqO a b = true) : a = b := by
  cases a <;> cases b <;> simp only [x_eqO, Bool.false_eq_true] at h
  · rfl
  · rw [x_eqB h]
theorem x_eqL_ok {α : Type} {f : α → α → Bool} (hf : ∀ a b, f a b = true → a = b) : ∀ {l k : List α}, x_eqL f l k = true → l = k
  | [], [], _ => rfl
  | a :: l, b :: k, h => by
    unfold x_eqL at h
    cases hfa : f a b with
    | false => rw [hfa] at h; cases h
    | true => rw [hfa] at h; rw [hf a b hfa, x_eqL_ok hf (show x_eqL f l k = true from h)]
  | [], _ :: _, h => by cases h
  | _ :: _, [], h => by cases h
theorem x_eqV_ok (a b : xV) (h : x_eqV a b = true) : a = b := by
  obtain ⟨a1, a2, a3⟩ := a
  obtain ⟨b1, b2, b3⟩ := b
  simp only [x_eqV, Bool.and_eq_true] at h
  rw [x_eqB h.1, x_eqO_ok h.2.1, x_eqI_ok h.2.2]
theorem x_eqN_ok (a b : Nat × xV) (h : x_eqN a b = true) : a = b := by
  obtain ⟨a1, a2⟩ := a
  obtain ⟨b1, b2⟩ := b
  simp only [x_eqN, Bool.and_eq_true] at h
  rw [x_eqB h.1, x_eqV_ok _ _ h.2]
theorem x_eqC_ok (a b : xC) (h : x_eqC a b = true) : a = b := by
  rcases a with ⟨a1, a2, a3, a4, a5⟩ | ⟨a1, a2⟩ <;> rcases b with ⟨b1, b2, b3, b4, b5⟩ | ⟨b1, b2⟩ <;> simp only [x_eqC, Bool.and_eq_true, Bool.false_eq_true] at h
  · rw [x_eqB h.1, x_eqB h.2.1, x_eqI_ok h.2.2.1, x_eqI_ok h.2.2.2.1, x_eqL_ok x_eqN_ok h.2.2.2.2]
  · rw [x_eqB h.1, x_eqL_ok x_eqV_ok h.2]
theorem x_eqE_ok (a b : Int × Int) (h : x_eqE a b = true) : a = b := by
  obtain ⟨a1, a2⟩ := a
  obtain ⟨b1, b2⟩ := b
  simp only [x_eqE, Bool.and_eq_true] at h
  rw [x_eqI_ok h.1, x_eqI_ok h.2]
theorem x_eqF_ok (a b : xF) (h : x_eqF a b = true) : a = b := by
  obtain ⟨a1, a2, a3, a4, a5, a6⟩ := a
  obtain ⟨b1, b2, b3, b4, b5, b6⟩ := b
  simp only [x_eqF, Bool.and_eq_true] at h
  rw [x_eqB h.1, x_eqB h.2.1, x_eqL_ok x_eqN_ok h.2.2.1, x_eqL_ok x_eqV_ok h.2.2.2.1, x_eqB h.2.2.2.2.1, x_eqB h.2.2.2.2.2]
theorem x_eqS_ok (a b : xS) (h : x_eqS a b = true) : a = b := by
  obtain ⟨a1, a2, a3⟩ := a
  obtain ⟨b1, b2, b3⟩ := b
  simp only [x_eqS, Bool.and_eq_true] at h
  rw [x_eqL_ok x_eqF_ok h.1, x_eqL_ok x_eqC_ok h.2.1, x_eqL_ok x_eqE_ok h.2.2]
def x_adv (P : xP) : Nat → xS → Option xS
  | 0, S => some S
  | n + 1, S => match x_step P S with
    | some [S'] => x_adv P n S'
    | _ => none
def x_advT (P : xP) (n : Nat) (S T : xS) : Bool := match x_adv P n S with
  | some q => x_eqS q T
  | none => false
def k_S0_100 : xS := ([(104, 21, [(0, (3, none, 8))], [(0, none, (-1)), (3, none, 8)], 0, 0), (41, 12, [(0, (3, none, 7))], [(3, none, 8), (3, none, 7)], 17, 350), (135, 34, [(0, (3, none, 0))], [(3, none, 7), (3, none, 0)], 43, 2405), (0, 7, [(0, (4, none, 0))], [(3, none, 0)], 63, 7038)], [.inr (11, [(3, none, 1), (3, none, 3), (2, none, 0), (2, none, 0), (2, none, 0), (2, none, 0), (2, none, 0), (2, none, 0), (2, none, 0), (0, none, 0), (0, none, 0), (0, none, 0), (0, none, 0)]), .inr (8, [(3, none, 2), (0, none, 0)]), .inl (0, 1600, 0, 0, []), .inr (10, [(3, none, 4), (3, none, 5), (0, none, 0)]), .inr (7, [(3, none, 5)]), .inr (3, [(3, none, 6), (0, none, 0), (0, none, 0), (0, none, 0), (0, none, 0), (0, none, 0), (0, none, 0), (0, none, 0)]), .inl (0, 0, 0, 0, []), .inr (5, [(2, none, 0), (2, none, 0), (2, none, 0), (2, none, 0)]), .inr (9, [(0, none, 0), (0, none, 0), (0, none, 0), (0, none, 0), (2, none, 0), (2, none, 0), (2, none, 0), (2, none, 0), (2, none, 0), (2, none, 0), (2, none, 0), (2, none, 0), (2, none, 0), (2, none, 0), (2, none, 0), (2, none, 0)])], [((-2147483648), 2147483647), ((-2147483648), 2147483647), ((-2147483648), 2147483647), ((-2147483648), 2147483647), ((-2147483648), 2147483647), ((-2147483648), 2147483647), (0, 6)])
theorem k_adv_0_100 : x_advT k_P 100 k_S k_S0_100 = true := by decide +kernel
def k_S100_200 : xS := ([(15, 14, [(0, (3, none, 44))], [(3, none, 44)], 1, 1620), (135, 45, [(0, (3, none, 0))], [(3, none, 44), (3, none, 0)], 45, 4028), (0, 7, [(0, (4, none, 0))], [(3, none, 0)], 63, 7038)], [.inr (11, [(3, none, 1), (3, none, 3), (3, none, 7), (2, none, 0), (2, none, 0), (2, none, 0), (2, none, 0), (2, none, 0), (2, none, 0), (0, none, 0), (0, none, 0), (0, none, 0), (0, none, 0)]), .inr (8, [(3, none, 2), (0, none, 0)]), .inl (0, 1600, 0, 0, []), .inr (10, [(3, none, 4), (3, none, 5), (0, none, 0)]), .inr (7, [(3, none, 5)]), .inr (3, [(3, none, 6), (0, none, 0), (0, none, 0), (0, none, 0), (0, none, 0), (0, none, 0), (0, none, 0), (0, none, 0)]), .inl (0, 0, 0, 0, []), .inr (5, [(3, none, 8), (3, none, 25), (3, none, 42), (3, none, 43)]), .inr (9, [(0, none, 0), (0, none, 0), (0, none, 0), (0, none, (-1)), (3, none, 9), (3, none, 10), (3, none, 11), (3, none, 12), (3, none, 13), (3, none, 14), (3, none, 15), (3, none, 16), (3, none, 17), (3, none, 18), (3, none, 19), (3, none, 22)]), .inl (0, 8, 0, 0, []), .inl (0, 8, 0, 0, []), .inl (0, 8, 0, 0, []), .inl (0, 64, 0, 0, []), .inl (0, 8, 0, 0, []), .inl (0, 8, 0, 0, []), .inl (0, 8, 0, 0, []), .inl (0, 8, 0, 0, []), .inl (0, 8, 0, 0, []), .inl (0, 8, 0, 0, []), .inr (1, [(3, none, 20), (3, none, 21), (0, none, 0)]), .inl (0, 64, 0, 0, []), .inl (0, 32, 0, 0, []), .inr (1, [(3, none, 23), (3, none, 24), (0, none, 0)]), .inl (0, 64, 0, 0, []), .inl (0, 32, 0, 0, []), .inr (9, [(0, none, 0), (0, none, 0), (0, none, 0), (0, none, (-1)), (3, none, 26), (3, none, 27), (3, none, 28), (3, none, 29), (3, none, 30), (3, none, 31), (3, none, 32), (3, none, 33), (3, none, 34), (3, none, 35), (3, none, 36), (3, none, 39)]), .inl (0, 8, 0, 0, []), .inl (0, 8, 0, 0, []), .inl (0, 8, 0, 0, []), .inl (0, 64, 0, 0, []), .inl (0, 8, 0, 0, []), .inl (0, 8, 0, 0, []), .inl (0, 8, 0, 0, []), .inl (0, 8, 0, 0, []), .inl (0, 8, 0, 0, []), .inl (0, 8, 0, 0, []), .inr (1, [(3, none, 37), (3, none, 38), (0, none, 0)]), .inl (0, 64, 0, 0, []), .inl (0, 32, 0, 0, []), .inr (1, [(3, none, 40), (3, none, 41), (0, none, 0)]), .inl (0, 64, 0, 0, []), .inl (0, 32, 0, 0, []), .inl (0, 81, 0, 0, []), .inl (0, 6, 0, 0, []), .inr (2, [(3, none, 45), (0, none, 0), (0, none, 0)]), .inl (0, 1620, 0, 0, [])], [((-2147483648), 2147483647), ((-2147483648), 2147483647), ((-2147483648), 2147483647), ((-2147483648), 2147483647), ((-2147483648), 2147483647), ((-2147483648), 2147483647), (0, 6)])
theorem k_adv_100_200 : x_advT k_P 200 k_S0_100 k_S100_200 = true := by decide +kernel
def k_S300_600 : xS := ([(0, 20, [(3, (0, none, 0)), (2, (3, none, 63)), (1, (3, none, 0)), (0, (4, none, 0))], [(4, none, 0), (0, none, 0)], 114, 22650)], [.inr (11, [(3, none, 1), (3, none, 3), (3, none, 7), (3, none, 44), (3, none, 46), (3, none, 51), (3, none, 54), (3, none, 61), (3, none, 62), (0, none, 0), (0, none, 0), (0, none, (-1)), (0, none, 1)]), .inr (8, [(3, none, 2), (0, none, 0)]), .inl (0, 1600, 0, 0, []), .inr (10, [(3, none, 4), (3, none, 5), (0, none, 0)]), .inr (7, [(3, none, 5)]), .inr (3, [(3, none, 6), (0, none, 0), (0, none, 0), (0, none, 0), (0, none, 0), (0, none, 0), (0, none, 0), (0, none, 0)]), .inl (0, 0, 0, 0, []), .inr (5, [(3, none, 8), (3, none, 25), (3, none, 42), (3, none, 43)]), .inr (9, [(0, none, 0), (0, none, 0), (0, none, 0), (0, none, (-1)), (3, none, 9), (3, none, 10), (3, none, 11), (3, none, 12), (3, none, 13), (3, none, 14), (3, none, 15), (3, none, 16), (3, none, 17), (3, none, 18), (3, none, 19), (3, none, 22)]), .inl (0, 8, 0, 0, []), .inl (0, 8, 0, 0, []), .inl (0, 8, 0, 0, []), .inl (0, 64, 0, 0, []), .inl (0, 8, 0, 0, []), .inl (0, 8, 0, 0, []), .inl (0, 8, 0, 0, []), .inl (0, 8, 0, 0, []), .inl (0, 8, 0, 0, []), .inl (0, 8, 0, 0, []), .inr (1, [(3, none, 20), (3, none, 21), (0, none, 0)]), .inl (0, 64, 0, 0, []), .inl (0, 32, 0, 0, []), .inr (1, [(3, none, 23), (3, none, 24), (0, none, 0)]), .inl (0, 64, 0, 0, []), .inl (0, 32, 0, 0, []), .inr (9, [(0, none, 0), (0, none, 0), (0, none, 0), (0, none, (-1)), (3, none, 26), (3, none, 27), (3, none, 28), (3, none, 29), (3, none, 30), (3, none, 31), (3, none, 32), (3, none, 33), (3, none, 34), (3, none, 35), (3, none, 36), (3, none, 39)]), .inl (0, 8, 0, 0, []), .inl (0, 8, 0, 0, []), .inl (0, 8, 0, 0, []), .inl (0, 64, 0, 0, []), .inl (0, 8, 0, 0, []), .inl (0, 8, 0, 0, []), .inl (0, 8, 0, 0, []), .inl (0, 8, 0, 0, []), .inl (0, 8, 0, 0, []), .inl (0, 8, 0, 0, []), .inr (1, [(3, none, 37), (3, none, 38), (0, none, 0)]), .inl (0, 64, 0, 0, []), .inl (0, 32, 0, 0, []), .inr (1, [(3, none, 40), (3, none, 41), (0, none, 0)]), .inl (0, 64, 0, 0, []), .inl (0, 32, 0, 0, []), .inl (0, 81, 0, 0, []), .inl (0, 6, 0, 0, []), .inr (2, [(3, none, 45), (0, none, 0), (0, none, 0)]), .inl (0, 1620, 0, 0, []), .inr (4, [(3, none, 47), (3, none, 48), (3, none, 49), (3, none, 50), (0, none, 0), (0, none, 0), (0, none, (-1))]), .inl (0, 64, 0, 0, []), .inl (0, 64, 0, 0, []), .inl (0, 8, 0, 0, []), .inl (0, 8, 0, 0, []), .inr (0, [(3, none, 52), (3, none, 53), (0, none, 0)]), .inl (0, 104, 0, 0, []), .inl (0, 12, 0, 0, []), .inr (6, [(3, none, 55), (3, none, 56), (3, none, 57), (3, none, 58), (3, none, 59), (3, none, 60), (0, none, 0), (0, none, 1)]), .inl (0, 8, 0, 0, []), .inl (0, 8, 0, 0, []), .inl (0, 2048, 0, 0, []), .inl (0, 256, 0, 0, []), .inl (0, 256, 0, 0, []), .inl (0, 64, 0, 0, []), .inl (0, 6, 0, 0, []), .inl (0, 73, 0, 0, []), .inr (12, [(3, none, 64), (0, none, 0), (0, none, 0), (0, none, 0), (0, none, 0), (0, none, 0), (0, none, 0), (1, none, 0), (0, none, 0), (0, none, 0), (0, none, (-1)), (0, none, 0), (0, none, (-1)), (0, none, (-1)), (0, none, 0), (3, none, 65), (3, none, 66), (3, none, 67), (3, none, 68), (3, none, 69), (3, none, 70), (3, none, 71), (3, none, 72), (3, none, 73), (3, none, 74), (3, none, 75), (3, none, 76), (3, none, 77), (3, none, 78), (3, none, 79), (3, none, 80), (3, none, 81), (3, none, 82), (3, none, 83), (3, none, 84), (0, none, 0), (0, none, 1), (3, none, 85), (3, none, 86), (3, none, 87), (3, none, 88), (3, none, 89), (0, none, 0), (0, none, 0), (3, none, 90), (0, none, 0), (0, none, 0), (3, none, 91), (3, none, 92), (3, none, 93), (3, none, 94), (3, none, 95), (3, none, 96), (3, none, 97), (3, none, 98), (3, none, 99), (3, none, 100), (3, none, 101), (0, none, 0), (0, none, 0), (1, none, 1), (3, none, 102), (0, none, 0), (0, none, 0), (0, none, 0), (3, none, 103), (3, none, 104), (3, none, 105), (0, none, 0), (3, none, 106), (0, none, 0), (3, none, 107), (0, none, 0), (3, none, 108), (3, none, 109), (3, none, 110), (3, none, 111), (3, none, 112), (3, none, 113), (0, none, 0)]), .inl (0, 1800, 0, 0, []), .inl (0, 2, 0, 0, []), .inl (0, 16, 0, 0, []), .inl (0, 16, 0, 0, []), .inl (0, 128, 0, 0, []), .inl (0, 2, 0, 0, []), .inl (0, 16, 0, 0, []), .inl (0, 16, 0, 0, []), .inl (0, 16, 0, 0, []), .inl (0, 16, 0, 0, []), .inl (0, 16, 0, 0, [(15, (0, none, (-1))), (14, (0, none, (-1))), (13, (0, none, (-1))), (12, (0, none, (-1))), (11, (0, none, (-1))), (10, (0, none, (-1))), (9, (0, none, (-1))), (8, (0, none, (-1))), (7, (0, none, (-1))), (6, (0, none, (-1))), (5, (0, none, (-1))), (4, (0, none, (-1))), (3, (0, none, (-1))), (2, (0, none, (-1))), (1, (0, none, (-1))), (0, (0, none, (-1)))]), .inl (0, 2, 0, 0, [(0, (0, none, (-1)))]), .inl (0, 2, 0, 0, []), .inl (0, 2, 0, 0, [(0, (0, none, (-1)))]), .inl (0, 2, 0, 0, []), .inl (0, 2, 0, 0, []), .inl (0, 2, 0, 0, [(0, (0, none, (-1)))]), .inl (0, 3200, 0, 0, []), .inl (0, 3200, 0, 0, []), .inl (1, 16, 0, 0, []), .inl (1, 16, 0, 0, []), .inl (0, 20, 0, 0, []), .inl (0, 20, 0, 0, []), .inl (2, 20, 0, 0, []), .inl (0, 20, 0, 0, []), .inl (0, 20, 0, 0, []), .inl (0, 500, 0, 0, []), .inl (0, 6, 0, 0, []), .inl (0, 176, 0, 0, []), .inl (0, 176, 0, 0, []), .inl (0, 176, 0, 0, []), .inl (0, 176, 0, 0, []), .inl (0, 176, 0, 0, []), .inl (0, 22, 0, 0, []), .inl (0, 880, 0, 0, []), .inl (0, 880, 0, 0, []), .inl (0, 880, 0, 0, []), .inl (0, 880, 0, 0, []), .inl (1, 500, 0, 0, []), .inl (0, 64, 0, 0, []), .inl (0, 64, 0, 0, []), .inl (0, 8, 0, 0, []), .inl (0, 12, 0, 0, []), .inl (0, 64, 0, 0, []), .inl (0, 8, 0, 0, []), .inl (0, 8, 0, 0, []), .inl (0, 600, 0, 0, []), .inl (0, 600, 0, 0, []), .inl (0, 8, 0, 0, []), .inl (0, 80, 0, 0, [])], [((-2147483648), 2147483647), ((-2147483648), 2147483647), ((-2147483648), 2147483647), ((-2147483648), 2147483647), ((-2147483648), 2147483647), ((-2147483648), 2147483647), (0, 6)])
theorem k_adv_300_600 : x_advT k_P 600 k_S100_200 k_S300_600 = true := by decide +kernel
