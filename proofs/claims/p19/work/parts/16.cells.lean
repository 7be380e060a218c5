/-! the cells behind the two constructors: kinds, ranges, frames -/
def k_T0 : List cK := [.inr 11, .inr 8, .inl (0, 1600), .inr 10, .inr 7, .inr 3, .inl (0, 0), .inr 5, .inr 9, .inl (0, 8), .inl (0, 8), .inl (0, 8), .inl (0, 64), .inl (0, 8), .inl (0, 8), .inl (0, 8), .inl (0, 8), .inl (0, 8), .inl (0, 8), .inr 1, .inl (0, 64), .inl (0, 32), .inr 1, .inl (0, 64), .inl (0, 32), .inr 9, .inl (0, 8), .inl (0, 8), .inl (0, 8), .inl (0, 64), .inl (0, 8), .inl (0, 8), .inl (0, 8), .inl (0, 8), .inl (0, 8), .inl (0, 8), .inr 1, .inl (0, 64), .inl (0, 32), .inr 1, .inl (0, 64), .inl (0, 32), .inl (0, 81), .inl (0, 6), .inr 2, .inl (0, 1620), .inr 4, .inl (0, 64), .inl (0, 64), .inl (0, 8), .inl (0, 8), .inr 0, .inl (0, 104), .inl (0, 12), .inr 6, .inl (0, 8), .inl (0, 8), .inl (0, 2048), .inl (0, 256), .inl (0, 256), .inl (0, 64), .inl (0, 6), .inl (0, 73), .inr 12, .inl (0, 1800), .inl (0, 2), .inl (0, 16), .inl (0, 16), .inl (0, 128), .inl (0, 2), .inl (0, 16), .inl (0, 16), .inl (0, 16), .inl (0, 16), .inl (0, 16), .inl (0, 2), .inl (0, 2), .inl (0, 2), .inl (0, 2), .inl (0, 2), .inl (0, 2), .inl (0, 3200), .inl (0, 3200), .inl (1, 16), .inl (1, 16), .inl (0, 20), .inl (0, 20), .inl (2, 20), .inl (0, 20), .inl (0, 20), .inl (0, 500), .inl (0, 6), .inl (0, 176), .inl (0, 176), .inl (0, 176), .inl (0, 176), .inl (0, 176), .inl (0, 22), .inl (0, 880), .inl (0, 880), .inl (0, 880), .inl (0, 880), .inl (1, 500), .inl (0, 64), .inl (0, 64), .inl (0, 8), .inl (0, 12), .inl (0, 64), .inl (0, 8), .inl (0, 8), .inl (0, 600), .inl (0, 600), .inl (0, 8), .inl (0, 80)]
def TT (T : List cK) : Prop := ∃ E, T = k_T0 ++ E
abbrev rf (k : Nat) : cV := (3, (k : Int))
def r_zA (f : Nat) : Option (Int × Int) := if f < 16 then some (0, 7) else if f = 40 then some (0, 40) else none
def r_zB (f : Nat) : Option (Int × Int) := if 8 ≤ f ∧ f < 16 then none else some (0, 7)
def r_tab : List (Nat × List (Option (Int × Int))) := [(2, [some (1, 1), some (3, 3), some (7, 7), some (44, 44), some (46, 46), some (51, 51), some (54, 54), some (61, 61), some (62, 62), some (0, 73), none, none, some (0, 2147483647)]), (2, [some (2, 2), some (0, 1600)]), (1, [some (0, 255)]), (2, [some (4, 4), some (5, 5), none]), (2, [some (5, 5)]), (2, [none, some (0, 1600), some (0, 1600), some (0, 5), none, some (0, 1600), none, none]), (0, []), (2, [some (8, 25), some (8, 25), some (42, 42), some (43, 43)]), (2, [some (0, 8), some (0, 8), none, none, some (9, 9), some (10, 10), some (11, 11), some (12, 12), some (13, 13), some (14, 14), some (15, 15), some (16, 16), some (17, 17), some (18, 18), some (19, 19), some (22, 22)]), (0, []), (0, []), (0, []), (0, []), (0, []), (0, []), (0, []), (0, []), (0, []), (1, [some (0, 7)]), (2, [some (20, 20), none, some (0, 1600)]), (0, []), (0, []), (2, [some (23, 23), none, some (0, 1600)]), (0, []), (0, []), (2, [some (0, 8), some (0, 8), none, none, some (26, 26), some (27, 27), some (28, 28), some (29, 29), some (30, 30), some (31, 31), some (32, 32), some (33, 33), some (34, 34), some (35, 35), some (36, 36), some (39, 39)]), (0, []), (0, []), (0, []), (0, []), (0, []), (0, []), (0, []), (0, []), (0, []), (1, [some (0, 7)]), (2, [some (37, 37), none, some (0, 1600)]), (0, []), (0, []), (2, [some (40, 40), none, some (0, 1600)]), (0, []), (0, []), (3, []), (0, []), (2, [some (45, 45), some (0, 19), none]), (4, []), (2, [some (47, 47), some (48, 48), some (49, 49), some (50, 50), some (0, 7), some (0, 8), none]), (0, []), (0, []), (0, []), (1, [some (0, 7)]), (2, [some (52, 52), some (53, 53), some (0, 12)]), (0, []), (0, []), (2, [some (55, 55), some (56, 56), some (57, 57), some (58, 58), some (59, 59), some (60, 60), some (0, 1), none]), (1, [some (-1, 255)]), (0, []), (0, []), (0, []), (0, []), (0, []), (0, []), (0, []), (2, [some (64, 64), some (0, 1600), some (0, 1600), some (0, 3), some (0, 1600), some (0, 1600), none, none, none, some (0, 6), none, none, none, some (-1, 1600), some (0, 1), some (65, 65), some (66, 66), some (67, 67), some (68, 68), some (69, 69), some (70, 70), some (71, 71), some (72, 72), some (73, 73), some (74, 74), some (75, 75), some (76, 76), some (77, 77), some (78, 78), some (79, 79), some (80, 80), some (81, 81), some (82, 82), some (83, 83), some (84, 84), some (0, 1600), some (0, 1), some (85, 85), some (86, 86), some (87, 87), some (88, 88), some (89, 89), some (0, 8), some (0, 7), some (90, 90), some (0, 500), some (0, 1), some (91, 91), some (92, 92), some (93, 93), some (94, 94), some (95, 95), some (96, 96), some (97, 97), some (98, 98), some (99, 99), some (100, 100), some (101, 101), some (0, 19), some (0, 20), some (0, 2147483647), some (102, 102), none, some (0, 7), some (0, 7), some (103, 103), some (104, 104), some (105, 105), some (0, 12), some (106, 106), some (0, 1), some (107, 107), some (0, 8), some (108, 108), some (109, 109), some (110, 110), some (111, 111), some (112, 112), some (113, 113), some (0, 80)]), (1, [some (0, 255)]), (1, [some (0, 8)]), (0, []), (0, []), (1, [some (0, 60)]), (1, [some (0, 8)]), (0, []), (0, []), (0, []), (1, [some (0, 7)]), (1, [some (-1, 7)]), (1, [some (-1, 1600)]), (1, [some (0, 1600)]), (1, [some (-1, 1600)]), (1, [some (0, 1600)]), (0, []), (0, []), (1, [some (0, 23)]), (0, []), (0, []), (0, []), (1, [some (0, 6)]), (1, [some (0, 2)]), (1, [some (0, 1)]), (1, [some (0, 23)]), (1, [some (0, 500)]), (1, [some (0, 22)]), (0, []), (5, []), (5, []), (0, []), (0, []), (0, []), (1, [some (0, 40)]), (0, []), (0, []), (0, []), (0, []), (0, []), (1, [some (0, 100000000)]), (1, [some (-1, 7)]), (1, [some (0, 100000000)]), (0, []), (0, []), (1, [some (0, 255)]), (1, [some (0, 255)]), (0, []), (0, []), (0, []), (0, [])]
def r_b (k f : Nat) : Option (Int × Int) := match r_tab[k]? with
  | some (1, l) => l.headD none
  | some (2, l) => l.getD f none
  | some (3, _) => r_zA f
  | some (4, _) => r_zA (f % 81)
  | some (5, _) => r_zB f
  | _ => none
def r_in (b : Option (Int × Int)) (v : Int) : Prop := match b with
  | none => True
  | some p => p.1 ≤ v ∧ v ≤ p.2
def r_ok (k f : Nat) (v : Int) : Prop := r_in (r_b k f) v
/-- every number lies in its range -/
def Rng (M : cM) : Prop := ∀ k f, r_ok k f (M k f)
/-- one number is changed -/
def Up (M : cM) (k f : Nat) (v : Int) (M' : cM) : Prop := M' k f = v ∧ ∀ a b, ¬ (a = k ∧ b = f) → M' a b = M a b
theorem Up.of (M : cM) (k f : Nat) (v : Int) : Up M k f v (c_up M k f v) := ⟨if_pos ⟨rfl, rfl⟩, fun _ _ h => if_neg h⟩
theorem Rng.up {M M' : cM} {k f : Nat} {v : Int} (h : Rng M) (u : Up M k f v M') (hv : r_ok k f v) : Rng M' := by
  intro a b
  by_cases g : a = k ∧ b = f
  · obtain ⟨rfl, rfl⟩ := g
    rw [u.1]
    exact hv
  · rw [u.2 a b g]
    exact h a b
def c_fr (S : List (Nat × Nat)) : Bool := S.any fun p => p.1 == 114
def c_in (S : List (Nat × Nat)) (a b : Nat) : Bool := (decide (114 ≤ a) && c_fr S) || S.any fun p => p.1 == a && (p.2 == 99999 || p.2 == b)
/-- nothing but the places of S is changed -/
def Fr (S : List (Nat × Nat)) (M M' : cM) : Prop := ∀ a b, c_in S a b = false → M' a b = M a b
theorem Fr.refl {S : List (Nat × Nat)} {M : cM} : Fr S M M := fun _ _ _ => rfl
theorem Fr.up {S : List (Nat × Nat)} {M0 M M' : cM} {k f : Nat} {v : Int} (h : Fr S M0 M) (u : Up M k f v M') (hS : c_in S k f = true) : Fr S M0 M' := by
  intro a b g
  rw [u.2 a b (by rintro ⟨rfl, rfl⟩; rw [hS] at g; cases g)]
  exact h a b g
theorem c_in_far {S : List (Nat × Nat)} {a b : Nat} (h : 114 ≤ a) (hf : c_fr S = true) : c_in S a b = true := by
  unfold c_in
  rw [decide_eq_true h, hf]
  rfl
theorem c_in_mem {S : List (Nat × Nat)} {a b : Nat} : c_in S a b = true ↔ (114 ≤ a ∧ c_fr S = true) ∨ ∃ p ∈ S, p.1 = a ∧ (p.2 = 99999 ∨ p.2 = b) := by
  unfold c_in
  rw [Bool.or_eq_true, Bool.and_eq_true, List.any_eq_true, decide_eq_true_iff]
  refine or_congr Iff.rfl ?_
  constructor
  · rintro ⟨p, h1, h2⟩
    refine ⟨p, h1, ?_⟩
    simpa using h2
  · rintro ⟨p, h1, h2⟩
    refine ⟨p, h1, ?_⟩
    simpa using h2
theorem c_fr_mem {S : List (Nat × Nat)} : c_fr S = true ↔ ∃ p ∈ S, p.1 = 114 := by
  unfold c_fr
  rw [List.any_eq_true]
  constructor
  · rintro ⟨p, h1, h2⟩
    exact ⟨p, h1, by simpa using h2⟩
  · rintro ⟨p, h1, h2⟩
    exact ⟨p, h1, by simpa using h2⟩
theorem c_fr_of {S : List (Nat × Nat)} {b : Nat} (h : c_in S 114 b = true) : c_fr S = true := by
  rcases c_in_mem.mp h with h | ⟨p, h1, h2, _⟩
  · exact h.2
  · exact c_fr_mem.mpr ⟨p, h1, h2⟩
/-- a frame without them keeps what was made later -/
theorem nin_far {S : List (Nat × Nat)} {c : Nat} (hc : 114 ≤ c) (h : (S.all fun p => decide (p.1 < 114)) = true) : ∀ f, c_in S c f = false := by
  intro f
  cases hh : c_in S c f with
  | false => rfl
  | true =>
    exfalso
    rcases c_in_mem.mp hh with ⟨_, h0⟩ | ⟨p, h1, h2, _⟩
    · obtain ⟨p, h1, h2⟩ := c_fr_mem.mp h0
      have := List.all_eq_true.mp h p h1
      simp at this
      omega
    · have := List.all_eq_true.mp h p h1
      simp at this
      omega
theorem Fr.sub {S S' : List (Nat × Nat)} {M M' : cM} (h : Fr S' M M') (hs : (S'.all fun p => c_in S p.1 p.2) = true) : Fr S M M' := by
  intro a b g
  apply h
  cases hh : c_in S' a b with
  | false => rfl
  | true =>
    exfalso
    have : c_in S a b = true := by
      rcases c_in_mem.mp hh with ⟨h0, h00⟩ | ⟨p, h1, h2, h3⟩
      · obtain ⟨p, h1, h2⟩ := c_fr_mem.mp h00
        have h4 := List.all_eq_true.mp hs p h1
        rw [h2] at h4
        exact c_in_far h0 (c_fr_of h4)
      · have h4 := List.all_eq_true.mp hs p h1
        rcases c_in_mem.mp h4 with ⟨h5, h50⟩ | ⟨q, h5, h6, h7⟩
        · exact c_in_far (by omega) h50
        · refine c_in_mem.mpr (Or.inr ⟨q, h5, h6.trans h2, ?_⟩)
          omega
    rw [this] at g
    cases g
theorem Fr.cell {k : Nat} {M M' : cM} (h : ∀ a b, a ≠ k → M' a b = M a b) : Fr [(k, 99999)] M M' := by
  intro a b g
  refine h a b ?_
  rintro rfl
  rw [c_in_mem.mpr (Or.inr ⟨(a, 99999), List.mem_singleton.mpr rfl, rfl, Or.inl rfl⟩)] at g
  cases g
theorem Fr.trans {S : List (Nat × Nat)} {M M' M2 : cM} (h : Fr S M M') (h2 : Fr S M' M2) : Fr S M M2 := fun a b g => (h2 a b g).trans (h a b g)
theorem Fr.call {S S' : List (Nat × Nat)} {M0 M M' : cM} (h : Fr S M0 M) (h2 : Fr S' M M') (hs : (S'.all fun p => c_in S p.1 p.2) = true) : Fr S M0 M' := h.trans (h2.sub hs)
theorem TT.at {T : List cK} (h : TT T) {k : Nat} {x : cK} (hk : k_T0[k]? = some x) : T[k]? = some x := by
  obtain ⟨E, rfl⟩ := h
  rw [List.getElem?_append_left (by
    have := List.getElem?_eq_some_iff.mp hk
    exact this.1)]
  exact hk
theorem TT.snoc {T : List cK} (h : TT T) (x : cK) : TT (T ++ [x]) := by
  obtain ⟨E, rfl⟩ := h
  exact ⟨E ++ [x], List.append_assoc _ _ _⟩
section KT
variable {T : List cK} {M : cM} {v : Int} {f t : Nat}
theorem tk_0 (h : TT T) : T[0]? = some (.inr 11) := h.at rfl
theorem tk_1 (h : TT T) : T[1]? = some (.inr 8) := h.at rfl
theorem tk_2 (h : TT T) : T[2]? = some (.inl (0, 1600)) := h.at rfl
theorem tk_3 (h : TT T) : T[3]? = some (.inr 10) := h.at rfl
theorem tk_4 (h : TT T) : T[4]? = some (.inr 7) := h.at rfl
theorem tk_5 (h : TT T) : T[5]? = some (.inr 3) := h.at rfl
theorem tk_6 (h : TT T) : T[6]? = some (.inl (0, 0)) := h.at rfl
theorem tk_7 (h : TT T) : T[7]? = some (.inr 5) := h.at rfl
theorem tk_8 (h : TT T) : T[8]? = some (.inr 9) := h.at rfl
theorem tk_9 (h : TT T) : T[9]? = some (.inl (0, 8)) := h.at rfl
theorem tk_10 (h : TT T) : T[10]? = some (.inl (0, 8)) := h.at rfl
theorem tk_11 (h : TT T) : T[11]? = some (.inl (0, 8)) := h.at rfl
theorem tk_12 (h : TT T) : T[12]? = some (.inl (0, 64)) := h.at rfl
theorem tk_13 (h : TT T) : T[13]? = some (.inl (0, 8)) := h.at rfl
theorem tk_14 (h : TT T) : T[14]? = some (.inl (0, 8)) := h.at rfl
theorem tk_15 (h : TT T) : T[15]? = some (.inl (0, 8)) := h.at rfl
theorem tk_16 (h : TT T) : T[16]? = some (.inl (0, 8)) := h.at rfl
theorem tk_17 (h : TT T) : T[17]? = some (.inl (0, 8)) := h.at rfl
theorem tk_18 (h : TT T) : T[18]? = some (.inl (0, 8)) := h.at rfl
theorem tk_19 (h : TT T) : T[19]? = some (.inr 1) := h.at rfl
theorem tk_20 (h : TT T) : T[20]? = some (.inl (0, 64)) := h.at rfl
theorem tk_21 (h : TT T) : T[21]? = some (.inl (0, 32)) := h.at rfl
theorem tk_22 (h : TT T) : T[22]? = some (.inr 1) := h.at rfl
theorem tk_23 (h : TT T) : T[23]? = some (.inl (0, 64)) := h.at rfl
theorem tk_24 (h : TT T) : T[24]? = some (.inl (0, 32)) := h.at rfl
theorem tk_25 (h : TT T) : T[25]? = some (.inr 9) := h.at rfl
theorem tk_26 (h : TT T) : T[26]? = some (.inl (0, 8)) := h.at rfl
theorem tk_27 (h : TT T) : T[27]? = some (.inl (0, 8)) := h.at rfl
theorem tk_28 (h : TT T) : T[28]? = some (.inl (0, 8)) := h.at rfl
theorem tk_29 (h : TT T) : T[29]? = some (.inl (0, 64)) := h.at rfl
theorem tk_30 (h : TT T) : T[30]? = some (.inl (0, 8)) := h.at rfl
theorem tk_31 (h : TT T) : T[31]? = some (.inl (0, 8)) := h.at rfl
theorem tk_32 (h : TT T) : T[32]? = some (.inl (0, 8)) := h.at rfl
theorem tk_33 (h : TT T) : T[33]? = some (.inl (0, 8)) := h.at rfl
theorem tk_34 (h : TT T) : T[34]? = some (.inl (0, 8)) := h.at rfl
theorem tk_35 (h : TT T) : T[35]? = some (.inl (0, 8)) := h.at rfl
theorem tk_36 (h : TT T) : T[36]? = some (.inr 1) := h.at rfl
theorem tk_37 (h : TT T) : T[37]? = some (.inl (0, 64)) := h.at rfl
theorem tk_38 (h : TT T) : T[38]? = some (.inl (0, 32)) := h.at rfl
theorem tk_39 (h : TT T) : T[39]? = some (.inr 1) := h.at rfl
theorem tk_40 (h : TT T) : T[40]? = some (.inl (0, 64)) := h.at rfl
theorem tk_41 (h : TT T) : T[41]? = some (.inl (0, 32)) := h.at rfl
theorem tk_42 (h : TT T) : T[42]? = some (.inl (0, 81)) := h.at rfl
theorem tk_43 (h : TT T) : T[43]? = some (.inl (0, 6)) := h.at rfl
theorem tk_44 (h : TT T) : T[44]? = some (.inr 2) := h.at rfl
theorem tk_45 (h : TT T) : T[45]? = some (.inl (0, 1620)) := h.at rfl
theorem tk_46 (h : TT T) : T[46]? = some (.inr 4) := h.at rfl
theorem tk_47 (h : TT T) : T[47]? = some (.inl (0, 64)) := h.at rfl
theorem tk_48 (h : TT T) : T[48]? = some (.inl (0, 64)) := h.at rfl
theorem tk_49 (h : TT T) : T[49]? = some (.inl (0, 8)) := h.at rfl
theorem tk_50 (h : TT T) : T[50]? = some (.inl (0, 8)) := h.at rfl
theorem tk_51 (h : TT T) : T[51]? = some (.inr 0) := h.at rfl
theorem tk_52 (h : TT T) : T[52]? = some (.inl (0, 104)) := h.at rfl
theorem tk_53 (h : TT T) : T[53]? = some (.inl (0, 12)) := h.at rfl
theorem tk_54 (h : TT T) : T[54]? = some (.inr 6) := h.at rfl
theorem tk_55 (h : TT T) : T[55]? = some (.inl (0, 8)) := h.at rfl
theorem tk_56 (h : TT T) : T[56]? = some (.inl (0, 8)) := h.at rfl
theorem tk_57 (h : TT T) : T[57]? = some (.inl (0, 2048)) := h.at rfl
theorem tk_58 (h : TT T) : T[58]? = some (.inl (0, 256)) := h.at rfl
theorem tk_59 (h : TT T) : T[59]? = some (.inl (0, 256)) := h.at rfl
theorem tk_60 (h : TT T) : T[60]? = some (.inl (0, 64)) := h.at rfl
theorem tk_61 (h : TT T) : T[61]? = some (.inl (0, 6)) := h.at rfl
theorem tk_62 (h : TT T) : T[62]? = some (.inl (0, 73)) := h.at rfl
theorem tk_63 (h : TT T) : T[63]? = some (.inr 12) := h.at rfl
theorem tk_64 (h : TT T) : T[64]? = some (.inl (0, 1800)) := h.at rfl
theorem tk_65 (h : TT T) : T[65]? = some (.inl (0, 2)) := h.at rfl
theorem tk_66 (h : TT T) : T[66]? = some (.inl (0, 16)) := h.at rfl
theorem tk_67 (h : TT T) : T[67]? = some (.inl (0, 16)) := h.at rfl
theorem tk_68 (h : TT T) : T[68]? = some (.inl (0, 128)) := h.at rfl
theorem tk_69 (h : TT T) : T[69]? = some (.inl (0, 2)) := h.at rfl
theorem tk_70 (h : TT T) : T[70]? = some (.inl (0, 16)) := h.at rfl
theorem tk_71 (h : TT T) : T[71]? = some (.inl (0, 16)) := h.at rfl
theorem tk_72 (h : TT T) : T[72]? = some (.inl (0, 16)) := h.at rfl
theorem tk_73 (h : TT T) : T[73]? = some (.inl (0, 16)) := h.at rfl
theorem tk_74 (h : TT T) : T[74]? = some (.inl (0, 16)) := h.at rfl
theorem tk_75 (h : TT T) : T[75]? = some (.inl (0, 2)) := h.at rfl
theorem tk_76 (h : TT T) : T[76]? = some (.inl (0, 2)) := h.at rfl
theorem tk_77 (h : TT T) : T[77]? = some (.inl (0, 2)) := h.at rfl
theorem tk_78 (h : TT T) : T[78]? = some (.inl (0, 2)) := h.at rfl
theorem tk_79 (h : TT T) : T[79]? = some (.inl (0, 2)) := h.at rfl
theorem tk_80 (h : TT T) : T[80]? = some (.inl (0, 2)) := h.at rfl
theorem tk_81 (h : TT T) : T[81]? = some (.inl (0, 3200)) := h.at rfl
theorem tk_82 (h : TT T) : T[82]? = some (.inl (0, 3200)) := h.at rfl
theorem tk_83 (h : TT T) : T[83]? = some (.inl (1, 16)) := h.at rfl
theorem tk_84 (h : TT T) : T[84]? = some (.inl (1, 16)) := h.at rfl
theorem tk_85 (h : TT T) : T[85]? = some (.inl (0, 20)) := h.at rfl
theorem tk_86 (h : TT T) : T[86]? = some (.inl (0, 20)) := h.at rfl
theorem tk_87 (h : TT T) : T[87]? = some (.inl (2, 20)) := h.at rfl
theorem tk_88 (h : TT T) : T[88]? = some (.inl (0, 20)) := h.at rfl
theorem tk_89 (h : TT T) : T[89]? = some (.inl (0, 20)) := h.at rfl
theorem tk_90 (h : TT T) : T[90]? = some (.inl (0, 500)) := h.at rfl
theorem tk_91 (h : TT T) : T[91]? = some (.inl (0, 6)) := h.at rfl
theorem tk_92 (h : TT T) : T[92]? = some (.inl (0, 176)) := h.at rfl
theorem tk_93 (h : TT T) : T[93]? = some (.inl (0, 176)) := h.at rfl
theorem tk_94 (h : TT T) : T[94]? = some (.inl (0, 176)) := h.at rfl
theorem tk_95 (h : TT T) : T[95]? = some (.inl (0, 176)) := h.at rfl
theorem tk_96 (h : TT T) : T[96]? = some (.inl (0, 176)) := h.at rfl
theorem tk_97 (h : TT T) : T[97]? = some (.inl (0, 22)) := h.at rfl
theorem tk_98 (h : TT T) : T[98]? = some (.inl (0, 880)) := h.at rfl
theorem tk_99 (h : TT T) : T[99]? = some (.inl (0, 880)) := h.at rfl
theorem tk_100 (h : TT T) : T[100]? = some (.inl (0, 880)) := h.at rfl
theorem tk_101 (h : TT T) : T[101]? = some (.inl (0, 880)) := h.at rfl
theorem tk_102 (h : TT T) : T[102]? = some (.inl (1, 500)) := h.at rfl
theorem tk_103 (h : TT T) : T[103]? = some (.inl (0, 64)) := h.at rfl
theorem tk_104 (h : TT T) : T[104]? = some (.inl (0, 64)) := h.at rfl
theorem tk_105 (h : TT T) : T[105]? = some (.inl (0, 8)) := h.at rfl
theorem tk_106 (h : TT T) : T[106]? = some (.inl (0, 12)) := h.at rfl
theorem tk_107 (h : TT T) : T[107]? = some (.inl (0, 64)) := h.at rfl
theorem tk_108 (h : TT T) : T[108]? = some (.inl (0, 8)) := h.at rfl
theorem tk_109 (h : TT T) : T[109]? = some (.inl (0, 8)) := h.at rfl
theorem tk_110 (h : TT T) : T[110]? = some (.inl (0, 600)) := h.at rfl
theorem tk_111 (h : TT T) : T[111]? = some (.inl (0, 600)) := h.at rfl
theorem tk_112 (h : TT T) : T[112]? = some (.inl (0, 8)) := h.at rfl
theorem tk_113 (h : TT T) : T[113]? = some (.inl (0, 80)) := h.at rfl
theorem rq_0_0 (h : Rng M) : M 0 0 = ((1 : Nat) : Int) := Int.le_antisymm (h 0 0).2 (h 0 0).1
theorem rq_0_1 (h : Rng M) : M 0 1 = ((3 : Nat) : Int) := Int.le_antisymm (h 0 1).2 (h 0 1).1
theorem rq_0_2 (h : Rng M) : M 0 2 = ((7 : Nat) : Int) := Int.le_antisymm (h 0 2).2 (h 0 2).1
theorem rq_0_3 (h : Rng M) : M 0 3 = ((44 : Nat) : Int) := Int.le_antisymm (h 0 3).2 (h 0 3).1
theorem rq_0_4 (h : Rng M) : M 0 4 = ((46 : Nat) : Int) := Int.le_antisymm (h 0 4).2 (h 0 4).1
theorem rq_0_5 (h : Rng M) : M 0 5 = ((51 : Nat) : Int) := Int.le_antisymm (h 0 5).2 (h 0 5).1
theorem rq_0_6 (h : Rng M) : M 0 6 = ((54 : Nat) : Int) := Int.le_antisymm (h 0 6).2 (h 0 6).1
theorem rq_0_7 (h : Rng M) : M 0 7 = ((61 : Nat) : Int) := Int.le_antisymm (h 0 7).2 (h 0 7).1
theorem rq_0_8 (h : Rng M) : M 0 8 = ((62 : Nat) : Int) := Int.le_antisymm (h 0 8).2 (h 0 8).1
theorem rg_0_9 (h : Rng M) : 0 ≤ M 0 9 ∧ M 0 9 ≤ 73 := h 0 9
theorem ru_0_9 (a : 0 ≤ v) (b : v ≤ 73) : r_ok 0 9 v := (⟨a, b⟩ : _ ∧ _)
theorem ru_0_10 : r_ok 0 10 v := trivial
theorem ru_0_11 : r_ok 0 11 v := trivial
theorem rg_0_12 (h : Rng M) : 0 ≤ M 0 12 ∧ M 0 12 ≤ 2147483647 := h 0 12
theorem ru_0_12 (a : 0 ≤ v) (b : v ≤ 2147483647) : r_ok 0 12 v := (⟨a, b⟩ : _ ∧ _)
theorem rq_1_0 (h : Rng M) : M 1 0 = ((2 : Nat) : Int) := Int.le_antisymm (h 1 0).2 (h 1 0).1
theorem rg_1_1 (h : Rng M) : 0 ≤ M 1 1 ∧ M 1 1 ≤ 1600 := h 1 1
theorem ru_1_1 (a : 0 ≤ v) (b : v ≤ 1600) : r_ok 1 1 v := (⟨a, b⟩ : _ ∧ _)
theorem rg_2 (h : Rng M) : 0 ≤ M 2 f ∧ M 2 f ≤ 255 := h 2 f
theorem ru_2 (a : 0 ≤ v) (b : v ≤ 255) : r_ok 2 f v := (⟨a, b⟩ : _ ∧ _)
theorem rq_3_0 (h : Rng M) : M 3 0 = ((4 : Nat) : Int) := Int.le_antisymm (h 3 0).2 (h 3 0).1
theorem rq_3_1 (h : Rng M) : M 3 1 = ((5 : Nat) : Int) := Int.le_antisymm (h 3 1).2 (h 3 1).1
theorem ru_3_2 : r_ok 3 2 v := trivial
theorem rq_4_0 (h : Rng M) : M 4 0 = ((5 : Nat) : Int) := Int.le_antisymm (h 4 0).2 (h 4 0).1
theorem ru_5_0 : r_ok 5 0 v := trivial
theorem rg_5_1 (h : Rng M) : 0 ≤ M 5 1 ∧ M 5 1 ≤ 1600 := h 5 1
theorem ru_5_1 (a : 0 ≤ v) (b : v ≤ 1600) : r_ok 5 1 v := (⟨a, b⟩ : _ ∧ _)
theorem rg_5_2 (h : Rng M) : 0 ≤ M 5 2 ∧ M 5 2 ≤ 1600 := h 5 2
theorem ru_5_2 (a : 0 ≤ v) (b : v ≤ 1600) : r_ok 5 2 v := (⟨a, b⟩ : _ ∧ _)
theorem rg_5_3 (h : Rng M) : 0 ≤ M 5 3 ∧ M 5 3 ≤ 5 := h 5 3
theorem ru_5_3 (a : 0 ≤ v) (b : v ≤ 5) : r_ok 5 3 v := (⟨a, b⟩ : _ ∧ _)
theorem ru_5_4 : r_ok 5 4 v := trivial
theorem rg_5_5 (h : Rng M) : 0 ≤ M 5 5 ∧ M 5 5 ≤ 1600 := h 5 5
theorem ru_5_5 (a : 0 ≤ v) (b : v ≤ 1600) : r_ok 5 5 v := (⟨a, b⟩ : _ ∧ _)
theorem ru_5_6 : r_ok 5 6 v := trivial
theorem ru_5_7 : r_ok 5 7 v := trivial
theorem ru_6 : r_ok 6 f v := trivial
theorem rg_7_0 (h : Rng M) : 8 ≤ M 7 0 ∧ M 7 0 ≤ 25 := h 7 0
theorem ru_7_0 (a : 8 ≤ v) (b : v ≤ 25) : r_ok 7 0 v := (⟨a, b⟩ : _ ∧ _)
theorem rg_7_1 (h : Rng M) : 8 ≤ M 7 1 ∧ M 7 1 ≤ 25 := h 7 1
theorem ru_7_1 (a : 8 ≤ v) (b : v ≤ 25) : r_ok 7 1 v := (⟨a, b⟩ : _ ∧ _)
theorem rq_7_2 (h : Rng M) : M 7 2 = ((42 : Nat) : Int) := Int.le_antisymm (h 7 2).2 (h 7 2).1
theorem rq_7_3 (h : Rng M) : M 7 3 = ((43 : Nat) : Int) := Int.le_antisymm (h 7 3).2 (h 7 3).1
theorem rg_8_0 (h : Rng M) : 0 ≤ M 8 0 ∧ M 8 0 ≤ 8 := h 8 0
theorem ru_8_0 (a : 0 ≤ v) (b : v ≤ 8) : r_ok 8 0 v := (⟨a, b⟩ : _ ∧ _)
theorem rg_8_1 (h : Rng M) : 0 ≤ M 8 1 ∧ M 8 1 ≤ 8 := h 8 1
theorem ru_8_1 (a : 0 ≤ v) (b : v ≤ 8) : r_ok 8 1 v := (⟨a, b⟩ : _ ∧ _)
theorem ru_8_2 : r_ok 8 2 v := trivial
theorem ru_8_3 : r_ok 8 3 v := trivial
theorem rq_8_4 (h : Rng M) : M 8 4 = ((9 : Nat) : Int) := Int.le_antisymm (h 8 4).2 (h 8 4).1
theorem rq_8_5 (h : Rng M) : M 8 5 = ((10 : Nat) : Int) := Int.le_antisymm (h 8 5).2 (h 8 5).1
theorem rq_8_6 (h : Rng M) : M 8 6 = ((11 : Nat) : Int) := Int.le_antisymm (h 8 6).2 (h 8 6).1
theorem rq_8_7 (h : Rng M) : M 8 7 = ((12 : Nat) : Int) := Int.le_antisymm (h 8 7).2 (h 8 7).1
theorem rq_8_8 (h : Rng M) : M 8 8 = ((13 : Nat) : Int) := Int.le_antisymm (h 8 8).2 (h 8 8).1
theorem rq_8_9 (h : Rng M) : M 8 9 = ((14 : Nat) : Int) := Int.le_antisymm (h 8 9).2 (h 8 9).1
theorem rq_8_10 (h : Rng M) : M 8 10 = ((15 : Nat) : Int) := Int.le_antisymm (h 8 10).2 (h 8 10).1
theorem rq_8_11 (h : Rng M) : M 8 11 = ((16 : Nat) : Int) := Int.le_antisymm (h 8 11).2 (h 8 11).1
theorem rq_8_12 (h : Rng M) : M 8 12 = ((17 : Nat) : Int) := Int.le_antisymm (h 8 12).2 (h 8 12).1
theorem rq_8_13 (h : Rng M) : M 8 13 = ((18 : Nat) : Int) := Int.le_antisymm (h 8 13).2 (h 8 13).1
theorem rq_8_14 (h : Rng M) : M 8 14 = ((19 : Nat) : Int) := Int.le_antisymm (h 8 14).2 (h 8 14).1
theorem rq_8_15 (h : Rng M) : M 8 15 = ((22 : Nat) : Int) := Int.le_antisymm (h 8 15).2 (h 8 15).1
theorem ru_9 : r_ok 9 f v := trivial
theorem ru_10 : r_ok 10 f v := trivial
theorem ru_11 : r_ok 11 f v := trivial
theorem ru_12 : r_ok 12 f v := trivial
theorem ru_13 : r_ok 13 f v := trivial
theorem ru_14 : r_ok 14 f v := trivial
theorem ru_15 : r_ok 15 f v := trivial
theorem ru_16 : r_ok 16 f v := trivial
theorem ru_17 : r_ok 17 f v := trivial
theorem rg_18 (h : Rng M) : 0 ≤ M 18 f ∧ M 18 f ≤ 7 := h 18 f
theorem ru_18 (a : 0 ≤ v) (b : v ≤ 7) : r_ok 18 f v := (⟨a, b⟩ : _ ∧ _)
theorem rq_19_0 (h : Rng M) : M 19 0 = ((20 : Nat) : Int) := Int.le_antisymm (h 19 0).2 (h 19 0).1
theorem ru_19_1 : r_ok 19 1 v := trivial
theorem rg_19_2 (h : Rng M) : 0 ≤ M 19 2 ∧ M 19 2 ≤ 1600 := h 19 2
theorem ru_19_2 (a : 0 ≤ v) (b : v ≤ 1600) : r_ok 19 2 v := (⟨a, b⟩ : _ ∧ _)
theorem ru_20 : r_ok 20 f v := trivial
theorem ru_21 : r_ok 21 f v := trivial
theorem rq_22_0 (h : Rng M) : M 22 0 = ((23 : Nat) : Int) := Int.le_antisymm (h 22 0).2 (h 22 0).1
theorem ru_22_1 : r_ok 22 1 v := trivial
theorem rg_22_2 (h : Rng M) : 0 ≤ M 22 2 ∧ M 22 2 ≤ 1600 := h 22 2
theorem ru_22_2 (a : 0 ≤ v) (b : v ≤ 1600) : r_ok 22 2 v := (⟨a, b⟩ : _ ∧ _)
theorem ru_23 : r_ok 23 f v := trivial
theorem ru_24 : r_ok 24 f v := trivial
theorem rg_25_0 (h : Rng M) : 0 ≤ M 25 0 ∧ M 25 0 ≤ 8 := h 25 0
theorem ru_25_0 (a : 0 ≤ v) (b : v ≤ 8) : r_ok 25 0 v := (⟨a, b⟩ : _ ∧ _)
theorem rg_25_1 (h : Rng M) : 0 ≤ M 25 1 ∧ M 25 1 ≤ 8 := h 25 1
theorem ru_25_1 (a : 0 ≤ v) (b : v ≤ 8) : r_ok 25 1 v := (⟨a, b⟩ : _ ∧ _)
theorem ru_25_2 : r_ok 25 2 v := trivial
theorem ru_25_3 : r_ok 25 3 v := trivial
theorem rq_25_4 (h : Rng M) : M 25 4 = ((26 : Nat) : Int) := Int.le_antisymm (h 25 4).2 (h 25 4).1
theorem rq_25_5 (h : Rng M) : M 25 5 = ((27 : Nat) : Int) := Int.le_antisymm (h 25 5).2 (h 25 5).1
theorem rq_25_6 (h : Rng M) : M 25 6 = ((28 : Nat) : Int) := Int.le_antisymm (h 25 6).2 (h 25 6).1
theorem rq_25_7 (h : Rng M) : M 25 7 = ((29 : Nat) : Int) := Int.le_antisymm (h 25 7).2 (h 25 7).1
theorem rq_25_8 (h : Rng M) : M 25 8 = ((30 : Nat) : Int) := Int.le_antisymm (h 25 8).2 (h 25 8).1
theorem rq_25_9 (h : Rng M) : M 25 9 = ((31 : Nat) : Int) := Int.le_antisymm (h 25 9).2 (h 25 9).1
theorem rq_25_10 (h : Rng M) : M 25 10 = ((32 : Nat) : Int) := Int.le_antisymm (h 25 10).2 (h 25 10).1
theorem rq_25_11 (h : Rng M) : M 25 11 = ((33 : Nat) : Int) := Int.le_antisymm (h 25 11).2 (h 25 11).1
theorem rq_25_12 (h : Rng M) : M 25 12 = ((34 : Nat) : Int) := Int.le_antisymm (h 25 12).2 (h 25 12).1
theorem rq_25_13 (h : Rng M) : M 25 13 = ((35 : Nat) : Int) := Int.le_antisymm (h 25 13).2 (h 25 13).1
theorem rq_25_14 (h : Rng M) : M 25 14 = ((36 : Nat) : Int) := Int.le_antisymm (h 25 14).2 (h 25 14).1
theorem rq_25_15 (h : Rng M) : M 25 15 = ((39 : Nat) : Int) := Int.le_antisymm (h 25 15).2 (h 25 15).1
theorem ru_26 : r_ok 26 f v := trivial
theorem ru_27 : r_ok 27 f v := trivial
theorem ru_28 : r_ok 28 f v := trivial
theorem ru_29 : r_ok 29 f v := trivial
theorem ru_30 : r_ok 30 f v := trivial
theorem ru_31 : r_ok 31 f v := trivial
theorem ru_32 : r_ok 32 f v := trivial
theorem ru_33 : r_ok 33 f v := trivial
theorem ru_34 : r_ok 34 f v := trivial
theorem rg_35 (h : Rng M) : 0 ≤ M 35 f ∧ M 35 f ≤ 7 := h 35 f
theorem ru_35 (a : 0 ≤ v) (b : v ≤ 7) : r_ok 35 f v := (⟨a, b⟩ : _ ∧ _)
theorem rq_36_0 (h : Rng M) : M 36 0 = ((37 : Nat) : Int) := Int.le_antisymm (h 36 0).2 (h 36 0).1
theorem ru_36_1 : r_ok 36 1 v := trivial
theorem rg_36_2 (h : Rng M) : 0 ≤ M 36 2 ∧ M 36 2 ≤ 1600 := h 36 2
theorem ru_36_2 (a : 0 ≤ v) (b : v ≤ 1600) : r_ok 36 2 v := (⟨a, b⟩ : _ ∧ _)
theorem ru_37 : r_ok 37 f v := trivial
theorem ru_38 : r_ok 38 f v := trivial
theorem rq_39_0 (h : Rng M) : M 39 0 = ((40 : Nat) : Int) := Int.le_antisymm (h 39 0).2 (h 39 0).1
theorem ru_39_1 : r_ok 39 1 v := trivial
theorem rg_39_2 (h : Rng M) : 0 ≤ M 39 2 ∧ M 39 2 ≤ 1600 := h 39 2
theorem ru_39_2 (a : 0 ≤ v) (b : v ≤ 1600) : r_ok 39 2 v := (⟨a, b⟩ : _ ∧ _)
theorem ru_40 : r_ok 40 f v := trivial
theorem ru_41 : r_ok 41 f v := trivial
theorem ru_43 : r_ok 43 f v := trivial
theorem rq_44_0 (h : Rng M) : M 44 0 = ((45 : Nat) : Int) := Int.le_antisymm (h 44 0).2 (h 44 0).1
theorem rg_44_1 (h : Rng M) : 0 ≤ M 44 1 ∧ M 44 1 ≤ 19 := h 44 1
theorem ru_44_1 (a : 0 ≤ v) (b : v ≤ 19) : r_ok 44 1 v := (⟨a, b⟩ : _ ∧ _)
theorem ru_44_2 : r_ok 44 2 v := trivial
theorem rq_46_0 (h : Rng M) : M 46 0 = ((47 : Nat) : Int) := Int.le_antisymm (h 46 0).2 (h 46 0).1
theorem rq_46_1 (h : Rng M) : M 46 1 = ((48 : Nat) : Int) := Int.le_antisymm (h 46 1).2 (h 46 1).1
theorem rq_46_2 (h : Rng M) : M 46 2 = ((49 : Nat) : Int) := Int.le_antisymm (h 46 2).2 (h 46 2).1
theorem rq_46_3 (h : Rng M) : M 46 3 = ((50 : Nat) : Int) := Int.le_antisymm (h 46 3).2 (h 46 3).1
theorem rg_46_4 (h : Rng M) : 0 ≤ M 46 4 ∧ M 46 4 ≤ 7 := h 46 4
theorem ru_46_4 (a : 0 ≤ v) (b : v ≤ 7) : r_ok 46 4 v := (⟨a, b⟩ : _ ∧ _)
theorem rg_46_5 (h : Rng M) : 0 ≤ M 46 5 ∧ M 46 5 ≤ 8 := h 46 5
theorem ru_46_5 (a : 0 ≤ v) (b : v ≤ 8) : r_ok 46 5 v := (⟨a, b⟩ : _ ∧ _)
theorem ru_46_6 : r_ok 46 6 v := trivial
theorem ru_47 : r_ok 47 f v := trivial
theorem ru_48 : r_ok 48 f v := trivial
theorem ru_49 : r_ok 49 f v := trivial
theorem rg_50 (h : Rng M) : 0 ≤ M 50 f ∧ M 50 f ≤ 7 := h 50 f
theorem ru_50 (a : 0 ≤ v) (b : v ≤ 7) : r_ok 50 f v := (⟨a, b⟩ : _ ∧ _)
theorem rq_51_0 (h : Rng M) : M 51 0 = ((52 : Nat) : Int) := Int.le_antisymm (h 51 0).2 (h 51 0).1
theorem rq_51_1 (h : Rng M) : M 51 1 = ((53 : Nat) : Int) := Int.le_antisymm (h 51 1).2 (h 51 1).1
theorem rg_51_2 (h : Rng M) : 0 ≤ M 51 2 ∧ M 51 2 ≤ 12 := h 51 2
theorem ru_51_2 (a : 0 ≤ v) (b : v ≤ 12) : r_ok 51 2 v := (⟨a, b⟩ : _ ∧ _)
theorem ru_52 : r_ok 52 f v := trivial
theorem ru_53 : r_ok 53 f v := trivial
theorem rq_54_0 (h : Rng M) : M 54 0 = ((55 : Nat) : Int) := Int.le_antisymm (h 54 0).2 (h 54 0).1
theorem rq_54_1 (h : Rng M) : M 54 1 = ((56 : Nat) : Int) := Int.le_antisymm (h 54 1).2 (h 54 1).1
theorem rq_54_2 (h : Rng M) : M 54 2 = ((57 : Nat) : Int) := Int.le_antisymm (h 54 2).2 (h 54 2).1
theorem rq_54_3 (h : Rng M) : M 54 3 = ((58 : Nat) : Int) := Int.le_antisymm (h 54 3).2 (h 54 3).1
theorem rq_54_4 (h : Rng M) : M 54 4 = ((59 : Nat) : Int) := Int.le_antisymm (h 54 4).2 (h 54 4).1
theorem rq_54_5 (h : Rng M) : M 54 5 = ((60 : Nat) : Int) := Int.le_antisymm (h 54 5).2 (h 54 5).1
theorem rg_54_6 (h : Rng M) : 0 ≤ M 54 6 ∧ M 54 6 ≤ 1 := h 54 6
theorem ru_54_6 (a : 0 ≤ v) (b : v ≤ 1) : r_ok 54 6 v := (⟨a, b⟩ : _ ∧ _)
theorem ru_54_7 : r_ok 54 7 v := trivial
theorem rg_55 (h : Rng M) : (-1) ≤ M 55 f ∧ M 55 f ≤ 255 := h 55 f
theorem ru_55 (a : (-1) ≤ v) (b : v ≤ 255) : r_ok 55 f v := (⟨a, b⟩ : _ ∧ _)
theorem ru_56 : r_ok 56 f v := trivial
theorem ru_57 : r_ok 57 f v := trivial
theorem ru_58 : r_ok 58 f v := trivial
theorem ru_59 : r_ok 59 f v := trivial
theorem ru_60 : r_ok 60 f v := trivial
theorem ru_61 : r_ok 61 f v := trivial
theorem ru_62 : r_ok 62 f v := trivial
theorem rq_63_0 (h : Rng M) : M 63 0 = ((64 : Nat) : Int) := Int.le_antisymm (h 63 0).2 (h 63 0).1
theorem rg_63_1 (h : Rng M) : 0 ≤ M 63 1 ∧ M 63 1 ≤ 1600 := h 63 1
theorem ru_63_1 (a : 0 ≤ v) (b : v ≤ 1600) : r_ok 63 1 v := (⟨a, b⟩ : _ ∧ _)
theorem rg_63_2 (h : Rng M) : 0 ≤ M 63 2 ∧ M 63 2 ≤ 1600 := h 63 2
theorem ru_63_2 (a : 0 ≤ v) (b : v ≤ 1600) : r_ok 63 2 v := (⟨a, b⟩ : _ ∧ _)
theorem rg_63_3 (h : Rng M) : 0 ≤ M 63 3 ∧ M 63 3 ≤ 3 := h 63 3
theorem ru_63_3 (a : 0 ≤ v) (b : v ≤ 3) : r_ok 63 3 v := (⟨a, b⟩ : _ ∧ _)
theorem rg_63_4 (h : Rng M) : 0 ≤ M 63 4 ∧ M 63 4 ≤ 1600 := h 63 4
theorem ru_63_4 (a : 0 ≤ v) (b : v ≤ 1600) : r_ok 63 4 v := (⟨a, b⟩ : _ ∧ _)
theorem rg_63_5 (h : Rng M) : 0 ≤ M 63 5 ∧ M 63 5 ≤ 1600 := h 63 5
theorem ru_63_5 (a : 0 ≤ v) (b : v ≤ 1600) : r_ok 63 5 v := (⟨a, b⟩ : _ ∧ _)
theorem ru_63_6 : r_ok 63 6 v := trivial
theorem ru_63_7 : r_ok 63 7 v := trivial
theorem ru_63_8 : r_ok 63 8 v := trivial
theorem rg_63_9 (h : Rng M) : 0 ≤ M 63 9 ∧ M 63 9 ≤ 6 := h 63 9
theorem ru_63_9 (a : 0 ≤ v) (b : v ≤ 6) : r_ok 63 9 v := (⟨a, b⟩ : _ ∧ _)
theorem ru_63_10 : r_ok 63 10 v := trivial
theorem ru_63_11 : r_ok 63 11 v := trivial
theorem ru_63_12 : r_ok 63 12 v := trivial
theorem rg_63_13 (h : Rng M) : (-1) ≤ M 63 13 ∧ M 63 13 ≤ 1600 := h 63 13
theorem ru_63_13 (a : (-1) ≤ v) (b : v ≤ 1600) : r_ok 63 13 v := (⟨a, b⟩ : _ ∧ _)
theorem rg_63_14 (h : Rng M) : 0 ≤ M 63 14 ∧ M 63 14 ≤ 1 := h 63 14
theorem ru_63_14 (a : 0 ≤ v) (b : v ≤ 1) : r_ok 63 14 v := (⟨a, b⟩ : _ ∧ _)
theorem rq_63_15 (h : Rng M) : M 63 15 = ((65 : Nat) : Int) := Int.le_antisymm (h 63 15).2 (h 63 15).1
theorem rq_63_16 (h : Rng M) : M 63 16 = ((66 : Nat) : Int) := Int.le_antisymm (h 63 16).2 (h 63 16).1
theorem rq_63_17 (h : Rng M) : M 63 17 = ((67 : Nat) : Int) := Int.le_antisymm (h 63 17).2 (h 63 17).1
theorem rq_63_18 (h : Rng M) : M 63 18 = ((68 : Nat) : Int) := Int.le_antisymm (h 63 18).2 (h 63 18).1
theorem rq_63_19 (h : Rng M) : M 63 19 = ((69 : Nat) : Int) := Int.le_antisymm (h 63 19).2 (h 63 19).1
theorem rq_63_20 (h : Rng M) : M 63 20 = ((70 : Nat) : Int) := Int.le_antisymm (h 63 20).2 (h 63 20).1
theorem rq_63_21 (h : Rng M) : M 63 21 = ((71 : Nat) : Int) := Int.le_antisymm (h 63 21).2 (h 63 21).1
theorem rq_63_22 (h : Rng M) : M 63 22 = ((72 : Nat) : Int) := Int.le_antisymm (h 63 22).2 (h 63 22).1
theorem rq_63_23 (h : Rng M) : M 63 23 = ((73 : Nat) : Int) := Int.le_antisymm (h 63 23).2 (h 63 23).1
theorem rq_63_24 (h : Rng M) : M 63 24 = ((74 : Nat) : Int) := Int.le_antisymm (h 63 24).2 (h 63 24).1
theorem rq_63_25 (h : Rng M) : M 63 25 = ((75 : Nat) : Int) := Int.le_antisymm (h 63 25).2 (h 63 25).1
theorem rq_63_26 (h : Rng M) : M 63 26 = ((76 : Nat) : Int) := Int.le_antisymm (h 63 26).2 (h 63 26).1
theorem rq_63_27 (h : Rng M) : M 63 27 = ((77 : Nat) : Int) := Int.le_antisymm (h 63 27).2 (h 63 27).1
theorem rq_63_28 (h : Rng M) : M 63 28 = ((78 : Nat) : Int) := Int.le_antisymm (h 63 28).2 (h 63 28).1
theorem rq_63_29 (h : Rng M) : M 63 29 = ((79 : Nat) : Int) := Int.le_antisymm (h 63 29).2 (h 63 29).1
theorem rq_63_30 (h : Rng M) : M 63 30 = ((80 : Nat) : Int) := Int.le_antisymm (h 63 30).2 (h 63 30).1
theorem rq_63_31 (h : Rng M) : M 63 31 = ((81 : Nat) : Int) := Int.le_antisymm (h 63 31).2 (h 63 31).1
theorem rq_63_32 (h : Rng M) : M 63 32 = ((82 : Nat) : Int) := Int.le_antisymm (h 63 32).2 (h 63 32).1
theorem rq_63_33 (h : Rng M) : M 63 33 = ((83 : Nat) : Int) := Int.le_antisymm (h 63 33).2 (h 63 33).1
theorem rq_63_34 (h : Rng M) : M 63 34 = ((84 : Nat) : Int) := Int.le_antisymm (h 63 34).2 (h 63 34).1
theorem rg_63_35 (h : Rng M) : 0 ≤ M 63 35 ∧ M 63 35 ≤ 1600 := h 63 35
theorem ru_63_35 (a : 0 ≤ v) (b : v ≤ 1600) : r_ok 63 35 v := (⟨a, b⟩ : _ ∧ _)
theorem rg_63_36 (h : Rng M) : 0 ≤ M 63 36 ∧ M 63 36 ≤ 1 := h 63 36
theorem ru_63_36 (a : 0 ≤ v) (b : v ≤ 1) : r_ok 63 36 v := (⟨a, b⟩ : _ ∧ _)
theorem rq_63_37 (h : Rng M) : M 63 37 = ((85 : Nat) : Int) := Int.le_antisymm (h 63 37).2 (h 63 37).1
theorem rq_63_38 (h : Rng M) : M 63 38 = ((86 : Nat) : Int) := Int.le_antisymm (h 63 38).2 (h 63 38).1
theorem rq_63_39 (h : Rng M) : M 63 39 = ((87 : Nat) : Int) := Int.le_antisymm (h 63 39).2 (h 63 39).1
theorem rq_63_40 (h : Rng M) : M 63 40 = ((88 : Nat) : Int) := Int.le_antisymm (h 63 40).2 (h 63 40).1
theorem rq_63_41 (h : Rng M) : M 63 41 = ((89 : Nat) : Int) := Int.le_antisymm (h 63 41).2 (h 63 41).1
theorem rg_63_42 (h : Rng M) : 0 ≤ M 63 42 ∧ M 63 42 ≤ 8 := h 63 42
theorem ru_63_42 (a : 0 ≤ v) (b : v ≤ 8) : r_ok 63 42 v := (⟨a, b⟩ : _ ∧ _)
theorem rg_63_43 (h : Rng M) : 0 ≤ M 63 43 ∧ M 63 43 ≤ 7 := h 63 43
theorem ru_63_43 (a : 0 ≤ v) (b : v ≤ 7) : r_ok 63 43 v := (⟨a, b⟩ : _ ∧ _)
theorem rq_63_44 (h : Rng M) : M 63 44 = ((90 : Nat) : Int) := Int.le_antisymm (h 63 44).2 (h 63 44).1
theorem rg_63_45 (h : Rng M) : 0 ≤ M 63 45 ∧ M 63 45 ≤ 500 := h 63 45
theorem ru_63_45 (a : 0 ≤ v) (b : v ≤ 500) : r_ok 63 45 v := (⟨a, b⟩ : _ ∧ _)
theorem rg_63_46 (h : Rng M) : 0 ≤ M 63 46 ∧ M 63 46 ≤ 1 := h 63 46
theorem ru_63_46 (a : 0 ≤ v) (b : v ≤ 1) : r_ok 63 46 v := (⟨a, b⟩ : _ ∧ _)
theorem rq_63_47 (h : Rng M) : M 63 47 = ((91 : Nat) : Int) := Int.le_antisymm (h 63 47).2 (h 63 47).1
theorem rq_63_48 (h : Rng M) : M 63 48 = ((92 : Nat) : Int) := Int.le_antisymm (h 63 48).2 (h 63 48).1
theorem rq_63_49 (h : Rng M) : M 63 49 = ((93 : Nat) : Int) := Int.le_antisymm (h 63 49).2 (h 63 49).1
theorem rq_63_50 (h : Rng M) : M 63 50 = ((94 : Nat) : Int) := Int.le_antisymm (h 63 50).2 (h 63 50).1
theorem rq_63_51 (h : Rng M) : M 63 51 = ((95 : Nat) : Int) := Int.le_antisymm (h 63 51).2 (h 63 51).1
theorem rq_63_52 (h : Rng M) : M 63 52 = ((96 : Nat) : Int) := Int.le_antisymm (h 63 52).2 (h 63 52).1
theorem rq_63_53 (h : Rng M) : M 63 53 = ((97 : Nat) : Int) := Int.le_antisymm (h 63 53).2 (h 63 53).1
theorem rq_63_54 (h : Rng M) : M 63 54 = ((98 : Nat) : Int) := Int.le_antisymm (h 63 54).2 (h 63 54).1
theorem rq_63_55 (h : Rng M) : M 63 55 = ((99 : Nat) : Int) := Int.le_antisymm (h 63 55).2 (h 63 55).1
theorem rq_63_56 (h : Rng M) : M 63 56 = ((100 : Nat) : Int) := Int.le_antisymm (h 63 56).2 (h 63 56).1
theorem rq_63_57 (h : Rng M) : M 63 57 = ((101 : Nat) : Int) := Int.le_antisymm (h 63 57).2 (h 63 57).1
theorem rg_63_58 (h : Rng M) : 0 ≤ M 63 58 ∧ M 63 58 ≤ 19 := h 63 58
theorem ru_63_58 (a : 0 ≤ v) (b : v ≤ 19) : r_ok 63 58 v := (⟨a, b⟩ : _ ∧ _)
theorem rg_63_59 (h : Rng M) : 0 ≤ M 63 59 ∧ M 63 59 ≤ 20 := h 63 59
theorem ru_63_59 (a : 0 ≤ v) (b : v ≤ 20) : r_ok 63 59 v := (⟨a, b⟩ : _ ∧ _)
theorem rg_63_60 (h : Rng M) : 0 ≤ M 63 60 ∧ M 63 60 ≤ 2147483647 := h 63 60
theorem ru_63_60 (a : 0 ≤ v) (b : v ≤ 2147483647) : r_ok 63 60 v := (⟨a, b⟩ : _ ∧ _)
theorem rq_63_61 (h : Rng M) : M 63 61 = ((102 : Nat) : Int) := Int.le_antisymm (h 63 61).2 (h 63 61).1
theorem ru_63_62 : r_ok 63 62 v := trivial
theorem rg_63_63 (h : Rng M) : 0 ≤ M 63 63 ∧ M 63 63 ≤ 7 := h 63 63
theorem ru_63_63 (a : 0 ≤ v) (b : v ≤ 7) : r_ok 63 63 v := (⟨a, b⟩ : _ ∧ _)
theorem rg_63_64 (h : Rng M) : 0 ≤ M 63 64 ∧ M 63 64 ≤ 7 := h 63 64
theorem ru_63_64 (a : 0 ≤ v) (b : v ≤ 7) : r_ok 63 64 v := (⟨a, b⟩ : _ ∧ _)
theorem rq_63_65 (h : Rng M) : M 63 65 = ((103 : Nat) : Int) := Int.le_antisymm (h 63 65).2 (h 63 65).1
theorem rq_63_66 (h : Rng M) : M 63 66 = ((104 : Nat) : Int) := Int.le_antisymm (h 63 66).2 (h 63 66).1
theorem rq_63_67 (h : Rng M) : M 63 67 = ((105 : Nat) : Int) := Int.le_antisymm (h 63 67).2 (h 63 67).1
theorem rg_63_68 (h : Rng M) : 0 ≤ M 63 68 ∧ M 63 68 ≤ 12 := h 63 68
theorem ru_63_68 (a : 0 ≤ v) (b : v ≤ 12) : r_ok 63 68 v := (⟨a, b⟩ : _ ∧ _)
theorem rq_63_69 (h : Rng M) : M 63 69 = ((106 : Nat) : Int) := Int.le_antisymm (h 63 69).2 (h 63 69).1
theorem rg_63_70 (h : Rng M) : 0 ≤ M 63 70 ∧ M 63 70 ≤ 1 := h 63 70
theorem ru_63_70 (a : 0 ≤ v) (b : v ≤ 1) : r_ok 63 70 v := (⟨a, b⟩ : _ ∧ _)
theorem rq_63_71 (h : Rng M) : M 63 71 = ((107 : Nat) : Int) := Int.le_antisymm (h 63 71).2 (h 63 71).1
theorem rg_63_72 (h : Rng M) : 0 ≤ M 63 72 ∧ M 63 72 ≤ 8 := h 63 72
theorem ru_63_72 (a : 0 ≤ v) (b : v ≤ 8) : r_ok 63 72 v := (⟨a, b⟩ : _ ∧ _)
theorem rq_63_73 (h : Rng M) : M 63 73 = ((108 : Nat) : Int) := Int.le_antisymm (h 63 73).2 (h 63 73).1
theorem rq_63_74 (h : Rng M) : M 63 74 = ((109 : Nat) : Int) := Int.le_antisymm (h 63 74).2 (h 63 74).1
theorem rq_63_75 (h : Rng M) : M 63 75 = ((110 : Nat) : Int) := Int.le_antisymm (h 63 75).2 (h 63 75).1
theorem rq_63_76 (h : Rng M) : M 63 76 = ((111 : Nat) : Int) := Int.le_antisymm (h 63 76).2 (h 63 76).1
theorem rq_63_77 (h : Rng M) : M 63 77 = ((112 : Nat) : Int) := Int.le_antisymm (h 63 77).2 (h 63 77).1
theorem rq_63_78 (h : Rng M) : M 63 78 = ((113 : Nat) : Int) := Int.le_antisymm (h 63 78).2 (h 63 78).1
theorem rg_63_79 (h : Rng M) : 0 ≤ M 63 79 ∧ M 63 79 ≤ 80 := h 63 79
theorem ru_63_79 (a : 0 ≤ v) (b : v ≤ 80) : r_ok 63 79 v := (⟨a, b⟩ : _ ∧ _)
theorem rg_64 (h : Rng M) : 0 ≤ M 64 f ∧ M 64 f ≤ 255 := h 64 f
theorem ru_64 (a : 0 ≤ v) (b : v ≤ 255) : r_ok 64 f v := (⟨a, b⟩ : _ ∧ _)
theorem rg_65 (h : Rng M) : 0 ≤ M 65 f ∧ M 65 f ≤ 8 := h 65 f
theorem ru_65 (a : 0 ≤ v) (b : v ≤ 8) : r_ok 65 f v := (⟨a, b⟩ : _ ∧ _)
theorem ru_66 : r_ok 66 f v := trivial
theorem ru_67 : r_ok 67 f v := trivial
theorem rg_68 (h : Rng M) : 0 ≤ M 68 f ∧ M 68 f ≤ 60 := h 68 f
theorem ru_68 (a : 0 ≤ v) (b : v ≤ 60) : r_ok 68 f v := (⟨a, b⟩ : _ ∧ _)
theorem rg_69 (h : Rng M) : 0 ≤ M 69 f ∧ M 69 f ≤ 8 := h 69 f
theorem ru_69 (a : 0 ≤ v) (b : v ≤ 8) : r_ok 69 f v := (⟨a, b⟩ : _ ∧ _)
theorem ru_70 : r_ok 70 f v := trivial
theorem ru_71 : r_ok 71 f v := trivial
theorem ru_72 : r_ok 72 f v := trivial
theorem rg_73 (h : Rng M) : 0 ≤ M 73 f ∧ M 73 f ≤ 7 := h 73 f
theorem ru_73 (a : 0 ≤ v) (b : v ≤ 7) : r_ok 73 f v := (⟨a, b⟩ : _ ∧ _)
theorem rg_74 (h : Rng M) : (-1) ≤ M 74 f ∧ M 74 f ≤ 7 := h 74 f
theorem ru_74 (a : (-1) ≤ v) (b : v ≤ 7) : r_ok 74 f v := (⟨a, b⟩ : _ ∧ _)
theorem rg_75 (h : Rng M) : (-1) ≤ M 75 f ∧ M 75 f ≤ 1600 := h 75 f
theorem ru_75 (a : (-1) ≤ v) (b : v ≤ 1600) : r_ok 75 f v := (⟨a, b⟩ : _ ∧ _)
theorem rg_76 (h : Rng M) : 0 ≤ M 76 f ∧ M 76 f ≤ 1600 := h 76 f
theorem ru_76 (a : 0 ≤ v) (b : v ≤ 1600) : r_ok 76 f v := (⟨a, b⟩ : _ ∧ _)
theorem rg_77 (h : Rng M) : (-1) ≤ M 77 f ∧ M 77 f ≤ 1600 := h 77 f
theorem ru_77 (a : (-1) ≤ v) (b : v ≤ 1600) : r_ok 77 f v := (⟨a, b⟩ : _ ∧ _)
theorem rg_78 (h : Rng M) : 0 ≤ M 78 f ∧ M 78 f ≤ 1600 := h 78 f
theorem ru_78 (a : 0 ≤ v) (b : v ≤ 1600) : r_ok 78 f v := (⟨a, b⟩ : _ ∧ _)
theorem ru_79 : r_ok 79 f v := trivial
theorem ru_80 : r_ok 80 f v := trivial
theorem rg_81 (h : Rng M) : 0 ≤ M 81 f ∧ M 81 f ≤ 23 := h 81 f
theorem ru_81 (a : 0 ≤ v) (b : v ≤ 23) : r_ok 81 f v := (⟨a, b⟩ : _ ∧ _)
theorem ru_82 : r_ok 82 f v := trivial
theorem ru_83 : r_ok 83 f v := trivial
theorem ru_84 : r_ok 84 f v := trivial
theorem rg_85 (h : Rng M) : 0 ≤ M 85 f ∧ M 85 f ≤ 6 := h 85 f
theorem ru_85 (a : 0 ≤ v) (b : v ≤ 6) : r_ok 85 f v := (⟨a, b⟩ : _ ∧ _)
theorem rg_86 (h : Rng M) : 0 ≤ M 86 f ∧ M 86 f ≤ 2 := h 86 f
theorem ru_86 (a : 0 ≤ v) (b : v ≤ 2) : r_ok 86 f v := (⟨a, b⟩ : _ ∧ _)
theorem rg_87 (h : Rng M) : 0 ≤ M 87 f ∧ M 87 f ≤ 1 := h 87 f
theorem ru_87 (a : 0 ≤ v) (b : v ≤ 1) : r_ok 87 f v := (⟨a, b⟩ : _ ∧ _)
theorem rg_88 (h : Rng M) : 0 ≤ M 88 f ∧ M 88 f ≤ 23 := h 88 f
theorem ru_88 (a : 0 ≤ v) (b : v ≤ 23) : r_ok 88 f v := (⟨a, b⟩ : _ ∧ _)
theorem rg_89 (h : Rng M) : 0 ≤ M 89 f ∧ M 89 f ≤ 500 := h 89 f
theorem ru_89 (a : 0 ≤ v) (b : v ≤ 500) : r_ok 89 f v := (⟨a, b⟩ : _ ∧ _)
theorem rg_90 (h : Rng M) : 0 ≤ M 90 f ∧ M 90 f ≤ 22 := h 90 f
theorem ru_90 (a : 0 ≤ v) (b : v ≤ 22) : r_ok 90 f v := (⟨a, b⟩ : _ ∧ _)
theorem ru_91 : r_ok 91 f v := trivial
theorem ru_94 : r_ok 94 f v := trivial
theorem ru_95 : r_ok 95 f v := trivial
theorem ru_96 : r_ok 96 f v := trivial
theorem rg_97 (h : Rng M) : 0 ≤ M 97 f ∧ M 97 f ≤ 40 := h 97 f
theorem ru_97 (a : 0 ≤ v) (b : v ≤ 40) : r_ok 97 f v := (⟨a, b⟩ : _ ∧ _)
theorem ru_98 : r_ok 98 f v := trivial
theorem ru_99 : r_ok 99 f v := trivial
theorem ru_100 : r_ok 100 f v := trivial
theorem ru_101 : r_ok 101 f v := trivial
theorem ru_102 : r_ok 102 f v := trivial
theorem rg_103 (h : Rng M) : 0 ≤ M 103 f ∧ M 103 f ≤ 100000000 := h 103 f
theorem ru_103 (a : 0 ≤ v) (b : v ≤ 100000000) : r_ok 103 f v := (⟨a, b⟩ : _ ∧ _)
theorem rg_104 (h : Rng M) : (-1) ≤ M 104 f ∧ M 104 f ≤ 7 := h 104 f
theorem ru_104 (a : (-1) ≤ v) (b : v ≤ 7) : r_ok 104 f v := (⟨a, b⟩ : _ ∧ _)
theorem rg_105 (h : Rng M) : 0 ≤ M 105 f ∧ M 105 f ≤ 100000000 := h 105 f
theorem ru_105 (a : 0 ≤ v) (b : v ≤ 100000000) : r_ok 105 f v := (⟨a, b⟩ : _ ∧ _)
theorem ru_106 : r_ok 106 f v := trivial
theorem ru_107 : r_ok 107 f v := trivial
theorem rg_108 (h : Rng M) : 0 ≤ M 108 f ∧ M 108 f ≤ 255 := h 108 f
theorem ru_108 (a : 0 ≤ v) (b : v ≤ 255) : r_ok 108 f v := (⟨a, b⟩ : _ ∧ _)
theorem rg_109 (h : Rng M) : 0 ≤ M 109 f ∧ M 109 f ≤ 255 := h 109 f
theorem ru_109 (a : 0 ≤ v) (b : v ≤ 255) : r_ok 109 f v := (⟨a, b⟩ : _ ∧ _)
theorem ru_110 : r_ok 110 f v := trivial
theorem ru_111 : r_ok 111 f v := trivial
theorem ru_112 : r_ok 112 f v := trivial
theorem ru_113 : r_ok 113 f v := trivial
theorem tkt_0 (h : TT T) (ht : t = 8 ∨ t = 25) : T[t]? = some (.inr 9) := by
  rcases ht with rfl | rfl
  · exact tk_8 h
  · exact tk_25 h
theorem rgt_0_0 (h : Rng M) (ht : t = 8 ∨ t = 25) : 0 ≤ M t 0 ∧ M t 0 ≤ 8 := by
  rcases ht with rfl | rfl
  · exact rg_8_0 h
  · exact rg_25_0 h
theorem rut_0_0 (ht : t = 8 ∨ t = 25) (a : 0 ≤ v) (b : v ≤ 8) : r_ok t 0 v := by
  rcases ht with rfl | rfl
  · exact ru_8_0 a b
  · exact ru_25_0 a b
theorem rgt_0_1 (h : Rng M) (ht : t = 8 ∨ t = 25) : 0 ≤ M t 1 ∧ M t 1 ≤ 8 := by
  rcases ht with rfl | rfl
  · exact rg_8_1 h
  · exact rg_25_1 h
theorem rut_0_1 (ht : t = 8 ∨ t = 25) (a : 0 ≤ v) (b : v ≤ 8) : r_ok t 1 v := by
  rcases ht with rfl | rfl
  · exact ru_8_1 a b
  · exact ru_25_1 a b
theorem rut_0_2 (ht : t = 8 ∨ t = 25) : r_ok t 2 v := by
  rcases ht with rfl | rfl
  · exact ru_8_2
  · exact ru_25_2
theorem rut_0_3 (ht : t = 8 ∨ t = 25) : r_ok t 3 v := by
  rcases ht with rfl | rfl
  · exact ru_8_3
  · exact ru_25_3
theorem rqt_4 (h : Rng M) (ht : t = 8 ∨ t = 25) : M t 4 = ((t + 1 : Nat) : Int) := by
  rcases ht with rfl | rfl
  · exact rq_8_4 h
  · exact rq_25_4 h
theorem rqt_5 (h : Rng M) (ht : t = 8 ∨ t = 25) : M t 5 = ((t + 2 : Nat) : Int) := by
  rcases ht with rfl | rfl
  · exact rq_8_5 h
  · exact rq_25_5 h
theorem rqt_6 (h : Rng M) (ht : t = 8 ∨ t = 25) : M t 6 = ((t + 3 : Nat) : Int) := by
  rcases ht with rfl | rfl
  · exact rq_8_6 h
  · exact rq_25_6 h
theorem rqt_7 (h : Rng M) (ht : t = 8 ∨ t = 25) : M t 7 = ((t + 4 : Nat) : Int) := by
  rcases ht with rfl | rfl
  · exact rq_8_7 h
  · exact rq_25_7 h
theorem rqt_8 (h : Rng M) (ht : t = 8 ∨ t = 25) : M t 8 = ((t + 5 : Nat) : Int) := by
  rcases ht with rfl | rfl
  · exact rq_8_8 h
  · exact rq_25_8 h
theorem rqt_9 (h : Rng M) (ht : t = 8 ∨ t = 25) : M t 9 = ((t + 6 : Nat) : Int) := by
  rcases ht with rfl | rfl
  · exact rq_8_9 h
  · exact rq_25_9 h
theorem rqt_10 (h : Rng M) (ht : t = 8 ∨ t = 25) : M t 10 = ((t + 7 : Nat) : Int) := by
  rcases ht with rfl | rfl
  · exact rq_8_10 h
  · exact rq_25_10 h
theorem rqt_11 (h : Rng M) (ht : t = 8 ∨ t = 25) : M t 11 = ((t + 8 : Nat) : Int) := by
  rcases ht with rfl | rfl
  · exact rq_8_11 h
  · exact rq_25_11 h
theorem rqt_12 (h : Rng M) (ht : t = 8 ∨ t = 25) : M t 12 = ((t + 9 : Nat) : Int) := by
  rcases ht with rfl | rfl
  · exact rq_8_12 h
  · exact rq_25_12 h
theorem rqt_13 (h : Rng M) (ht : t = 8 ∨ t = 25) : M t 13 = ((t + 10 : Nat) : Int) := by
  rcases ht with rfl | rfl
  · exact rq_8_13 h
  · exact rq_25_13 h
theorem rqt_14 (h : Rng M) (ht : t = 8 ∨ t = 25) : M t 14 = ((t + 11 : Nat) : Int) := by
  rcases ht with rfl | rfl
  · exact rq_8_14 h
  · exact rq_25_14 h
theorem rqt_15 (h : Rng M) (ht : t = 8 ∨ t = 25) : M t 15 = ((t + 14 : Nat) : Int) := by
  rcases ht with rfl | rfl
  · exact rq_8_15 h
  · exact rq_25_15 h
theorem tkt_1 (h : TT T) (ht : t = 8 ∨ t = 25) : T[(t + 1)]? = some (.inl (0, 8)) := by
  rcases ht with rfl | rfl
  · exact tk_9 h
  · exact tk_26 h
theorem rut_1 (ht : t = 8 ∨ t = 25) : r_ok (t + 1) f v := by
  rcases ht with rfl | rfl
  · exact ru_9
  · exact ru_26
theorem tkt_2 (h : TT T) (ht : t = 8 ∨ t = 25) : T[(t + 2)]? = some (.inl (0, 8)) := by
  rcases ht with rfl | rfl
  · exact tk_10 h
  · exact tk_27 h
theorem rut_2 (ht : t = 8 ∨ t = 25) : r_ok (t + 2) f v := by
  rcases ht with rfl | rfl
  · exact ru_10
  · exact ru_27
theorem tkt_3 (h : TT T) (ht : t = 8 ∨ t = 25) : T[(t + 3)]? = some (.inl (0, 8)) := by
  rcases ht with rfl | rfl
  · exact tk_11 h
  · exact tk_28 h
theorem rut_3 (ht : t = 8 ∨ t = 25) : r_ok (t + 3) f v := by
  rcases ht with rfl | rfl
  · exact ru_11
  · exact ru_28
theorem tkt_4 (h : TT T) (ht : t = 8 ∨ t = 25) : T[(t + 4)]? = some (.inl (0, 64)) := by
  rcases ht with rfl | rfl
  · exact tk_12 h
  · exact tk_29 h
theorem rut_4 (ht : t = 8 ∨ t = 25) : r_ok (t + 4) f v := by
  rcases ht with rfl | rfl
  · exact ru_12
  · exact ru_29
theorem tkt_5 (h : TT T) (ht : t = 8 ∨ t = 25) : T[(t + 5)]? = some (.inl (0, 8)) := by
  rcases ht with rfl | rfl
  · exact tk_13 h
  · exact tk_30 h
theorem rut_5 (ht : t = 8 ∨ t = 25) : r_ok (t + 5) f v := by
  rcases ht with rfl | rfl
  · exact ru_13
  · exact ru_30
theorem tkt_6 (h : TT T) (ht : t = 8 ∨ t = 25) : T[(t + 6)]? = some (.inl (0, 8)) := by
  rcases ht with rfl | rfl
  · exact tk_14 h
  · exact tk_31 h
theorem rut_6 (ht : t = 8 ∨ t = 25) : r_ok (t + 6) f v := by
  rcases ht with rfl | rfl
  · exact ru_14
  · exact ru_31
theorem tkt_7 (h : TT T) (ht : t = 8 ∨ t = 25) : T[(t + 7)]? = some (.inl (0, 8)) := by
  rcases ht with rfl | rfl
  · exact tk_15 h
  · exact tk_32 h
theorem rut_7 (ht : t = 8 ∨ t = 25) : r_ok (t + 7) f v := by
  rcases ht with rfl | rfl
  · exact ru_15
  · exact ru_32
theorem tkt_8 (h : TT T) (ht : t = 8 ∨ t = 25) : T[(t + 8)]? = some (.inl (0, 8)) := by
  rcases ht with rfl | rfl
  · exact tk_16 h
  · exact tk_33 h
theorem rut_8 (ht : t = 8 ∨ t = 25) : r_ok (t + 8) f v := by
  rcases ht with rfl | rfl
  · exact ru_16
  · exact ru_33
theorem tkt_9 (h : TT T) (ht : t = 8 ∨ t = 25) : T[(t + 9)]? = some (.inl (0, 8)) := by
  rcases ht with rfl | rfl
  · exact tk_17 h
  · exact tk_34 h
theorem rut_9 (ht : t = 8 ∨ t = 25) : r_ok (t + 9) f v := by
  rcases ht with rfl | rfl
  · exact ru_17
  · exact ru_34
theorem tkt_10 (h : TT T) (ht : t = 8 ∨ t = 25) : T[(t + 10)]? = some (.inl (0, 8)) := by
  rcases ht with rfl | rfl
  · exact tk_18 h
  · exact tk_35 h
theorem rgt_10 (h : Rng M) (ht : t = 8 ∨ t = 25) : 0 ≤ M (t + 10) f ∧ M (t + 10) f ≤ 7 := by
  rcases ht with rfl | rfl
  · exact rg_18 h
  · exact rg_35 h
theorem rut_10 (ht : t = 8 ∨ t = 25) (a : 0 ≤ v) (b : v ≤ 7) : r_ok (t + 10) f v := by
  rcases ht with rfl | rfl
  · exact ru_18 a b
  · exact ru_35 a b
theorem tkt_12 (h : TT T) (ht : t = 8 ∨ t = 25) : T[(t + 12)]? = some (.inl (0, 64)) := by
  rcases ht with rfl | rfl
  · exact tk_20 h
  · exact tk_37 h
theorem rut_12 (ht : t = 8 ∨ t = 25) : r_ok (t + 12) f v := by
  rcases ht with rfl | rfl
  · exact ru_20
  · exact ru_37
theorem tkt_13 (h : TT T) (ht : t = 8 ∨ t = 25) : T[(t + 13)]? = some (.inl (0, 32)) := by
  rcases ht with rfl | rfl
  · exact tk_21 h
  · exact tk_38 h
theorem rut_13 (ht : t = 8 ∨ t = 25) : r_ok (t + 13) f v := by
  rcases ht with rfl | rfl
  · exact ru_21
  · exact ru_38
theorem tkt_15 (h : TT T) (ht : t = 8 ∨ t = 25) : T[(t + 15)]? = some (.inl (0, 64)) := by
  rcases ht with rfl | rfl
  · exact tk_23 h
  · exact tk_40 h
theorem rut_15 (ht : t = 8 ∨ t = 25) : r_ok (t + 15) f v := by
  rcases ht with rfl | rfl
  · exact ru_23
  · exact ru_40
theorem tkt_16 (h : TT T) (ht : t = 8 ∨ t = 25) : T[(t + 16)]? = some (.inl (0, 32)) := by
  rcases ht with rfl | rfl
  · exact tk_24 h
  · exact tk_41 h
theorem rut_16 (ht : t = 8 ∨ t = 25) : r_ok (t + 16) f v := by
  rcases ht with rfl | rfl
  · exact ru_24
  · exact ru_41
def fF (f : Nat) : Prop := f = 19 ∨ f = 22 ∨ f = 36 ∨ f = 39
variable {g : Nat}
theorem tkf_0 (h : TT T) (hf : fF f) : T[f]? = some (.inr 1) := by
  rcases hf with rfl | rfl | rfl | rfl
  · exact tk_19 h
  · exact tk_22 h
  · exact tk_36 h
  · exact tk_39 h
theorem tkf_1 (h : TT T) (hf : fF f) : T[f + 1]? = some (.inl (0, 64)) := by
  rcases hf with rfl | rfl | rfl | rfl
  · exact tk_20 h
  · exact tk_23 h
  · exact tk_37 h
  · exact tk_40 h
theorem rqf_0 (h : Rng M) (hf : fF f) : M f 0 = ((f + 1 : Nat) : Int) := by
  rcases hf with rfl | rfl | rfl | rfl
  · exact rq_19_0 h
  · exact rq_22_0 h
  · exact rq_36_0 h
  · exact rq_39_0 h
theorem rgf_0_2 (h : Rng M) (hf : fF f) : 0 ≤ M f 2 ∧ M f 2 ≤ 1600 := by
  rcases hf with rfl | rfl | rfl | rfl
  · exact rg_19_2 h
  · exact rg_22_2 h
  · exact rg_36_2 h
  · exact rg_39_2 h
theorem ruf_0_2 (hf : fF f) (a : 0 ≤ v) (b : v ≤ 1600) : r_ok f 2 v := by
  rcases hf with rfl | rfl | rfl | rfl
  · exact ru_19_2 a b
  · exact ru_22_2 a b
  · exact ru_36_2 a b
  · exact ru_39_2 a b
theorem ruf_0_1 (hf : fF f) : r_ok f 1 v := by
  rcases hf with rfl | rfl | rfl | rfl
  · exact ru_19_1
  · exact ru_22_1
  · exact ru_36_1
  · exact ru_39_1
theorem ruf_1 (hf : fF f) : r_ok (f + 1) g v := by
  rcases hf with rfl | rfl | rfl | rfl
  · exact ru_20
  · exact ru_23
  · exact ru_37
  · exact ru_40
theorem fF_slow (ht : t = 8 ∨ t = 25) : fF (t + 11) := by unfold fF; omega
theorem fF_stands (ht : t = 8 ∨ t = 25) : fF (t + 14) := by unfold fF; omega
theorem ru_far (h : 114 ≤ g) : r_ok g f v := by
  unfold r_ok r_b
  rw [List.getElem?_eq_none (by simpa [r_tab] using h)]
  exact trivial
theorem rgA (h : Rng M) (a : f < 16) : 0 ≤ M 42 f ∧ M 42 f ≤ 7 := by
  have := h 42 f
  change r_in (r_zA f) _ at this
  unfold r_zA at this
  rw [if_pos a] at this
  exact this
theorem rgA40 (h : Rng M) : 0 ≤ M 42 40 ∧ M 42 40 ≤ 40 := h 42 40
theorem r_zA_ok (a : f < 16 → 0 ≤ v ∧ v ≤ 7) (b : f = 40 → 0 ≤ v ∧ v ≤ 40) : r_in (r_zA f) v := by
  unfold r_zA
  split
  next g => exact a g
  next =>
    split
    next g => exact b g
    next => trivial
theorem ru_42 (a : f < 16 → 0 ≤ v ∧ v ≤ 7) (b : f = 40 → 0 ≤ v ∧ v ≤ 40) : r_ok 42 f v := r_zA_ok a b
theorem r_zB_ok (a : ¬ (8 ≤ f ∧ f < 16) → 0 ≤ v ∧ v ≤ 7) : r_in (r_zB f) v := by
  unfold r_zB
  split
  next g => trivial
  next g => exact a g
theorem ru_92 (a : ¬ (8 ≤ f ∧ f < 16) → 0 ≤ v ∧ v ≤ 7) : r_ok 92 f v := r_zB_ok a
theorem ru_93 (a : ¬ (8 ≤ f ∧ f < 16) → 0 ≤ v ∧ v ≤ 7) : r_ok 93 f v := r_zB_ok a
theorem r_zB_get (h : r_in (r_zB f) v) (a : ¬ (8 ≤ f ∧ f < 16)) : 0 ≤ v ∧ v ≤ 7 := by
  unfold r_zB at h
  rw [if_neg a] at h
  exact h
theorem rg_92 (h : Rng M) (a : ¬ (8 ≤ f ∧ f < 16)) : 0 ≤ M 92 f ∧ M 92 f ≤ 7 := r_zB_get (h 92 f) a
theorem rg_93 (h : Rng M) (a : ¬ (8 ≤ f ∧ f < 16)) : 0 ≤ M 93 f ∧ M 93 f ≤ 7 := r_zB_get (h 93 f) a
theorem ruH {q i : Nat} (h : Rng M) (e : q % 81 = i) : r_ok 45 q (M 42 i) := by
  change r_in (r_zA (q % 81)) _
  rw [e]
  exact h 42 i
theorem ruB {q i : Nat} (h : Rng M) (e : i % 81 = q) : r_ok 42 q (M 45 i) := by
  have := h 45 i
  change r_in (r_zA (i % 81)) _ at this
  rw [e] at this
  exact this
theorem fF.cases (hf : fF f) : f = 19 ∨ f = 22 ∨ f = 36 ∨ f = 39 := hf
theorem TT.len (h : TT T) : 114 ≤ T.length := by
  obtain ⟨E, rfl⟩ := h
  rw [List.length_append]
  have : k_T0.length = 114 := rfl
  omega
def Fm (T : List cK) (M : cM) : Prop := ∀ f, fF f → ∃ s n : Nat, M f 1 = ((s : Nat) : Int) ∧ T[s]? = some (.inl (0, n)) ∧ n < 2147483648 ∧ 32 ≤ n
theorem Fm.fr {S : List (Nat × Nat)} {M1 : cM} (h : Fm T M) (g : Fr S M M1) (hs : ([19, 22, 36, 39].all fun f => !c_in S f 1) = true) : Fm T M1 := by
  intro f hf
  obtain ⟨s, n, h1, h2, h3⟩ := h f hf
  refine ⟨s, n, ?_, h2, h3⟩
  rw [← h1]
  apply g
  have := List.all_eq_true.mp hs f (by unfold fF at hf; simp; omega)
  simpa using this
/-- the formulas' rows and the room that they take -/
def Gm (T : List cK) (M : cM) : Prop := ∃ n : Nat → Nat, (∀ f, fF f → ∃ s : Nat, M f 1 = ((s : Nat) : Int) ∧ T[s]? = some (.inl (0, n f)) ∧ 32 ≤ n f ∧ n f ≤ 3200 ∧ M f 2 ≤ (n f : Int) ∧ (s = f + 2 ∨ 114 ≤ s)) ∧ 32 * T.length + 128 ≤ 3648 + (n 19 + n 22 + n 36 + n 39) ∧ c_sz k_P T + 256 ≤ c_sz k_P k_T0 + 2 * (n 19 + n 22 + n 36 + n 39) ∧ ∀ f g, fF f → fF g → f ≠ g → M f 1 ≠ M g 1
theorem Gm.fm (h : Gm T M) : Fm T M := by
  obtain ⟨n, h1, _, _, _⟩ := h
  intro f hf
  obtain ⟨s, a, b, c1, c2, _, _⟩ := h1 f hf
  exact ⟨s, n f, a, b, by omega, c1⟩
theorem Gm.of {M1 : cM} (h : Gm T M) (g1 : ∀ f, fF f → M1 f 1 = M f 1) (g2 : ∀ f, fF f → M1 f 2 ≤ M f 2 ∨ M1 f 2 = 0) : Gm T M1 := by
  obtain ⟨n, h1, h2, h3, h4⟩ := h
  refine ⟨n, fun f hf => ?_, h2, h3, fun f g hf hg e => by rw [g1 f hf, g1 g hg]; exact h4 f g hf hg e⟩
  obtain ⟨s, a, b, c1, c2, c3, c4⟩ := h1 f hf
  refine ⟨s, (g1 f hf).trans a, b, c1, c2, ?_, c4⟩
  have := g2 f hf
  omega
theorem Gm.fr {S : List (Nat × Nat)} {M1 : cM} (h : Gm T M) (g : Fr S M M1) (hs : ([19, 22, 36, 39].all fun f => !c_in S f 1 && !c_in S f 2) = true) : Gm T M1 := by
  have h0 : ∀ f, fF f → c_in S f 1 = false ∧ c_in S f 2 = false := by
    intro f hf
    have := List.all_eq_true.mp hs f (by unfold fF at hf; simp; omega)
    simpa using this
  exact h.of (fun f hf => g f 1 (h0 f hf).1) (fun f hf => Or.inl (Int.le_of_eq (g f 2 (h0 f hf).2)))
theorem Up.fr {M1 : cM} {k f : Nat} {x : Int} (u : Up M k f x M1) : Fr [(k, f)] M M1 := by
  intro a b g
  refine u.2 a b ?_
  rintro ⟨rfl, rfl⟩
  rw [c_in_mem.mpr (Or.inr ⟨(a, b), List.mem_singleton.mpr rfl, rfl, Or.inr rfl⟩)] at g
  cases g
theorem Rng.new {k : Nat} {g : Nat → Int} (h : Rng M) (hk : 114 ≤ k) : Rng (c_new M k g) := by
  intro a b
  by_cases e : a = k
  · subst e
    exact ru_far hk
  · have : c_new M k g a b = M a b := if_neg e
    rw [this]
    exact h a b
end KT
