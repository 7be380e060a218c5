/-! the reference's words: names as eight-bit letters -/
def n5d (a b c d e f : Int) : Int := ((((a * 32 + b) * 32 + c) * 32 + d) * 32 + e) * 32 + f
def n8d (a b c d e f : Int) : Int :=
  let t1 := a + 96
  let t2 := if b = 0 then t1 else 256 * t1 + (b + 96)
  let t3 := if c = 0 then t2 else 256 * t2 + (c + 96)
  let t4 := if d = 0 then t3 else 256 * t3 + (d + 96)
  let t5 := if e = 0 then t4 else 256 * t4 + (e + 96)
  if f = 0 then t5 else 256 * t5 + (f + 96)
/-- a word in five bits a letter and in eight -/
def N58 (x y : Int) : Prop := (x = 1 ∧ y = 1) ∨ ∃ a b c d e f : Int, 1 ≤ a ∧ a ≤ 26 ∧ 0 ≤ b ∧ b ≤ 26 ∧ 0 ≤ c ∧ c ≤ 26 ∧ 0 ≤ d ∧ d ≤ 26 ∧ 0 ≤ e ∧ e ≤ 26 ∧ 0 ≤ f ∧ f ≤ 26 ∧ (b = 0 → c = 0) ∧ (c = 0 → d = 0) ∧ (d = 0 → e = 0) ∧ (e = 0 → f = 0) ∧ x = n5d a b c d e f ∧ y = n8d a b c d e f
theorem n5_inj {a b c d e f a' b' c' d' e' f' : Int} (h : n5d a b c d e f = n5d a' b' c' d' e' f') (ha : 1 ≤ a ∧ a ≤ 26 ∧ 0 ≤ b ∧ b ≤ 26 ∧ 0 ≤ c ∧ c ≤ 26 ∧ 0 ≤ d ∧ d ≤ 26 ∧ 0 ≤ e ∧ e ≤ 26 ∧ 0 ≤ f ∧ f ≤ 26) (hb : 1 ≤ a' ∧ a' ≤ 26 ∧ 0 ≤ b' ∧ b' ≤ 26 ∧ 0 ≤ c' ∧ c' ≤ 26 ∧ 0 ≤ d' ∧ d' ≤ 26 ∧ 0 ≤ e' ∧ e' ≤ 26 ∧ 0 ≤ f' ∧ f' ≤ 26) : a = a' ∧ b = b' ∧ c = c' ∧ d = d' ∧ e = e' ∧ f = f' := by
  unfold n5d at h
  have h1 : f = f' := by omega
  have h2 : e = e' := by omega
  have h3 : d = d' := by omega
  have h4 : c = c' := by omega
  have h5 : b = b' := by omega
  have h6 : a = a' := by omega
  exact ⟨h6, h5, h4, h3, h2, h1⟩
def n8u (x : Int) : Int := if x < 256 then x - 96 else if x < 65536 then x / 256 - 96 else if x < 16777216 then x / 65536 - 96 else if x < 4294967296 then x / 16777216 - 96 else if x < 1099511627776 then x / 4294967296 - 96 else x / 1099511627776 - 96
theorem n8_rng {a b c d e f : Int} (ha : 1 ≤ a ∧ a ≤ 26 ∧ 0 ≤ b ∧ b ≤ 26 ∧ 0 ≤ c ∧ c ≤ 26 ∧ 0 ≤ d ∧ d ≤ 26 ∧ 0 ≤ e ∧ e ≤ 26 ∧ 0 ≤ f ∧ f ≤ 26) (hz : (b = 0 → c = 0) ∧ (c = 0 → d = 0) ∧ (d = 0 → e = 0) ∧ (e = 0 → f = 0)) :
    (b = 0 ∧ c = 0 ∧ d = 0 ∧ e = 0 ∧ f = 0 ∧ n8d a b c d e f = a + 96) ∨
    (b ≠ 0 ∧ c = 0 ∧ d = 0 ∧ e = 0 ∧ f = 0 ∧ n8d a b c d e f = 256 * (a + 96) + (b + 96)) ∨
    (b ≠ 0 ∧ c ≠ 0 ∧ d = 0 ∧ e = 0 ∧ f = 0 ∧ n8d a b c d e f = 256 * (256 * (a + 96) + (b + 96)) + (c + 96)) ∨
    (b ≠ 0 ∧ c ≠ 0 ∧ d ≠ 0 ∧ e = 0 ∧ f = 0 ∧ n8d a b c d e f = 256 * (256 * (256 * (a + 96) + (b + 96)) + (c + 96)) + (d + 96)) ∨
    (b ≠ 0 ∧ c ≠ 0 ∧ d ≠ 0 ∧ e ≠ 0 ∧ f = 0 ∧ n8d a b c d e f = 256 * (256 * (256 * (256 * (a + 96) + (b + 96)) + (c + 96)) + (d + 96)) + (e + 96)) ∨
    (b ≠ 0 ∧ c ≠ 0 ∧ d ≠ 0 ∧ e ≠ 0 ∧ f ≠ 0 ∧ n8d a b c d e f = 256 * (256 * (256 * (256 * (256 * (a + 96) + (b + 96)) + (c + 96)) + (d + 96)) + (e + 96)) + (f + 96)) := by
  obtain ⟨z1, z2, z3, z4⟩ := hz
  unfold n8d
  by_cases hb : b = 0
  · have hc := z1 hb
    have hd := z2 hc
    have he := z3 hd
    have hf := z4 he
    subst hb hc hd he hf
    exact Or.inl ⟨rfl, rfl, rfl, rfl, rfl, rfl⟩
  · by_cases hc : c = 0
    · have hd := z2 hc
      have he := z3 hd
      have hf := z4 he
      subst hc hd he hf
      simp [hb]
    · by_cases hd : d = 0
      · have he := z3 hd
        have hf := z4 he
        subst hd he hf
        simp [hb, hc]
      · by_cases he : e = 0
        · have hf := z4 he
          subst he hf
          simp [hb, hc, hd]
        · by_cases hf : f = 0
          · subst hf
            simp [hb, hc, hd, he]
          · simp [hb, hc, hd, he, hf]
theorem N58.iff {x y x' y' : Int} (h : N58 x y) (h' : N58 x' y') : x = x' ↔ y = y' := by
  rcases h with ⟨rfl, rfl⟩ | ⟨a, b, c, d, e, f, a1, a2, b1, b2, c1, c2, d1, d2, e1, e2, f1, f2, z1, z2, z3, z4, rfl, rfl⟩
  · rcases h' with ⟨rfl, rfl⟩ | ⟨a', b', c', d', e', f', a1', a2', b1', b2', c1', c2', d1', d2', e1', e2', f1', f2', z1', z2', z3', z4', rfl, rfl⟩
    · exact ⟨fun _ => rfl, fun _ => rfl⟩
    · have := n8_rng ⟨a1', a2', b1', b2', c1', c2', d1', d2', e1', e2', f1', f2'⟩ ⟨z1', z2', z3', z4'⟩
      constructor
      · intro g; unfold n5d at g; omega
      · intro g; omega
  · have r := n8_rng ⟨a1, a2, b1, b2, c1, c2, d1, d2, e1, e2, f1, f2⟩ ⟨z1, z2, z3, z4⟩
    rcases h' with ⟨rfl, rfl⟩ | ⟨a', b', c', d', e', f', a1', a2', b1', b2', c1', c2', d1', d2', e1', e2', f1', f2', z1', z2', z3', z4', rfl, rfl⟩
    · constructor
      · intro g; unfold n5d at g; omega
      · intro g; omega
    · have r' := n8_rng ⟨a1', a2', b1', b2', c1', c2', d1', d2', e1', e2', f1', f2'⟩ ⟨z1', z2', z3', z4'⟩
      constructor
      · intro g
        obtain ⟨rfl, rfl, rfl, rfl, rfl, rfl⟩ := n5_inj g ⟨a1, a2, b1, b2, c1, c2, d1, d2, e1, e2, f1, f2⟩ ⟨a1', a2', b1', b2', c1', c2', d1', d2', e1', e2', f1', f2'⟩
        rfl
      · intro g
        have key : a = a' ∧ b = b' ∧ c = c' ∧ d = d' ∧ e = e' ∧ f = f' := by
          rcases r with ⟨p1, p2, p3, p4, p5, p6⟩ | ⟨p1, p2, p3, p4, p5, p6⟩ | ⟨p1, p2, p3, p4, p5, p6⟩ | ⟨p1, p2, p3, p4, p5, p6⟩ | ⟨p1, p2, p3, p4, p5, p6⟩ | ⟨p1, p2, p3, p4, p5, p6⟩ <;>
          rcases r' with ⟨q1, q2, q3, q4, q5, q6⟩ | ⟨q1, q2, q3, q4, q5, q6⟩ | ⟨q1, q2, q3, q4, q5, q6⟩ | ⟨q1, q2, q3, q4, q5, q6⟩ | ⟨q1, q2, q3, q4, q5, q6⟩ | ⟨q1, q2, q3, q4, q5, q6⟩ <;>
          (rw [p6, q6] at g; omega)
        obtain ⟨rfl, rfl, rfl, rfl, rfl, rfl⟩ := key
        rfl
theorem n58_at : N58 54525952 24948 := Or.inr ⟨1, 20, 0, 0, 0, 0, by decide, by decide, by decide, by decide, by decide, by decide, by decide, by decide, by decide, by decide, by decide, by decide, by decide, by decide, by decide, by decide, by decide, by decide⟩
theorem n58_if : N58 308281344 26982 := Or.inr ⟨9, 6, 0, 0, 0, 0, by decide, by decide, by decide, by decide, by decide, by decide, by decide, by decide, by decide, by decide, by decide, by decide, by decide, by decide, by decide, by decide, by decide, by decide⟩
theorem n58_or : N58 522190848 28530 := Or.inr ⟨15, 18, 0, 0, 0, 0, by decide, by decide, by decide, by decide, by decide, by decide, by decide, by decide, by decide, by decide, by decide, by decide, by decide, by decide, by decide, by decide, by decide, by decide⟩
theorem n58_way : N58 773619712 7823737 := Or.inr ⟨23, 1, 25, 0, 0, 0, by decide, by decide, by decide, by decide, by decide, by decide, by decide, by decide, by decide, by decide, by decide, by decide, by decide, by decide, by decide, by decide, by decide, by decide⟩
theorem n58_own : N58 527892480 7305070 := Or.inr ⟨15, 23, 14, 0, 0, 0, by decide, by decide, by decide, by decide, by decide, by decide, by decide, by decide, by decide, by decide, by decide, by decide, by decide, by decide, by decide, by decide, by decide, by decide⟩
theorem n58_and : N58 48365568 6385252 := Or.inr ⟨1, 14, 4, 0, 0, 0, by decide, by decide, by decide, by decide, by decide, by decide, by decide, by decide, by decide, by decide, by decide, by decide, by decide, by decide, by decide, by decide, by decide, by decide⟩
theorem n58_not : N58 486146048 7237492 := Or.inr ⟨14, 15, 20, 0, 0, 0, by decide, by decide, by decide, by decide, by decide, by decide, by decide, by decide, by decide, by decide, by decide, by decide, by decide, by decide, by decide, by decide, by decide, by decide⟩
theorem n58_all : N58 46530560 6384748 := Or.inr ⟨1, 12, 12, 0, 0, 0, by decide, by decide, by decide, by decide, by decide, by decide, by decide, by decide, by decide, by decide, by decide, by decide, by decide, by decide, by decide, by decide, by decide, by decide⟩
theorem n58_min : N58 446103552 7170414 := Or.inr ⟨13, 9, 14, 0, 0, 0, by decide, by decide, by decide, by decide, by decide, by decide, by decide, by decide, by decide, by decide, by decide, by decide, by decide, by decide, by decide, by decide, by decide, by decide⟩
theorem n58_max : N58 438042624 7168376 := Or.inr ⟨13, 1, 24, 0, 0, 0, by decide, by decide, by decide, by decide, by decide, by decide, by decide, by decide, by decide, by decide, by decide, by decide, by decide, by decide, by decide, by decide, by decide, by decide⟩
theorem n58_room : N58 620213248 1919905645 := Or.inr ⟨18, 15, 15, 13, 0, 0, by decide, by decide, by decide, by decide, by decide, by decide, by decide, by decide, by decide, by decide, by decide, by decide, by decide, by decide, by decide, by decide, by decide, by decide⟩
theorem n58_door : N58 150456320 1685024626 := Or.inr ⟨4, 15, 15, 18, 0, 0, by decide, by decide, by decide, by decide, by decide, by decide, by decide, by decide, by decide, by decide, by decide, by decide, by decide, by decide, by decide, by decide, by decide, by decide⟩
theorem n58_wide : N58 781325312 2003395685 := Or.inr ⟨23, 9, 4, 5, 0, 0, by decide, by decide, by decide, by decide, by decide, by decide, by decide, by decide, by decide, by decide, by decide, by decide, by decide, by decide, by decide, by decide, by decide, by decide⟩
theorem n58_slow : N58 650632192 1936486263 := Or.inr ⟨19, 12, 15, 23, 0, 0, by decide, by decide, by decide, by decide, by decide, by decide, by decide, by decide, by decide, by decide, by decide, by decide, by decide, by decide, by decide, by decide, by decide, by decide⟩
theorem n58_floor : N58 214416960 439905906546 := Or.inr ⟨6, 12, 15, 15, 18, 0, by decide, by decide, by decide, by decide, by decide, by decide, by decide, by decide, by decide, by decide, by decide, by decide, by decide, by decide, by decide, by decide, by decide, by decide⟩
theorem n58_takes : N58 672503392 499850634611 := Or.inr ⟨20, 1, 11, 5, 19, 0, by decide, by decide, by decide, by decide, by decide, by decide, by decide, by decide, by decide, by decide, by decide, by decide, by decide, by decide, by decide, by decide, by decide, by decide⟩
theorem n58_chair : N58 109094464 426952976754 := Or.inr ⟨3, 8, 1, 9, 18, 0, by decide, by decide, by decide, by decide, by decide, by decide, by decide, by decide, by decide, by decide, by decide, by decide, by decide, by decide, by decide, by decide, by decide, by decide⟩
theorem n58_clock : N58 113741152 427021001579 := Or.inr ⟨3, 12, 15, 3, 11, 0, by decide, by decide, by decide, by decide, by decide, by decide, by decide, by decide, by decide, by decide, by decide, by decide, by decide, by decide, by decide, by decide, by decide, by decide⟩
theorem n58_person : N58 542723566 123581014175598 := Or.inr ⟨16, 5, 18, 19, 15, 14, by decide, by decide, by decide, by decide, by decide, by decide, by decide, by decide, by decide, by decide, by decide, by decide, by decide, by decide, by decide, by decide, by decide, by decide⟩
theorem n58_strong : N58 659111367 126943973305959 := Or.inr ⟨19, 20, 18, 15, 14, 7, by decide, by decide, by decide, by decide, by decide, by decide, by decide, by decide, by decide, by decide, by decide, by decide, by decide, by decide, by decide, by decide, by decide, by decide⟩
theorem n58_joined : N58 351582372 117026742756708 := Or.inr ⟨10, 15, 9, 14, 5, 4, by decide, by decide, by decide, by decide, by decide, by decide, by decide, by decide, by decide, by decide, by decide, by decide, by decide, by decide, by decide, by decide, by decide, by decide⟩
theorem n58_stands : N58 658552979 126943688025203 := Or.inr ⟨19, 20, 1, 14, 4, 19, by decide, by decide, by decide, by decide, by decide, by decide, by decide, by decide, by decide, by decide, by decide, by decide, by decide, by decide, by decide, by decide, by decide, by decide⟩
theorem n58_breaks : N58 86148467 108243466677107 := Or.inr ⟨2, 18, 5, 1, 11, 19, by decide, by decide, by decide, by decide, by decide, by decide, by decide, by decide, by decide, by decide, by decide, by decide, by decide, by decide, by decide, by decide, by decide, by decide⟩
theorem n58_weight : N58 777297172 131277443786868 := Or.inr ⟨23, 5, 9, 7, 8, 20, by decide, by decide, by decide, by decide, by decide, by decide, by decide, by decide, by decide, by decide, by decide, by decide, by decide, by decide, by decide, by decide, by decide, by decide⟩
theorem n58_carp : N58 1 1 := Or.inl ⟨rfl, rfl⟩
def owO8 : List Int := [24948, 26982, 28530, 7823737, 7305070, 6385252, 7237492, 6384748, 7170414, 7168376, 1919905645, 1685024626, 2003395685, 1936486263, 439905906546, 499850634611, 426952976754, 427021001579, 123581014175598, 126943973305959, 117026742756708, 126943688025203, 108243466677107, 131277443786868]
theorem n58_isown {x y : Int} (h : N58 x y) : x ∈ owOl ↔ y ∈ owO8 := by
  simp only [owOl, owO8, List.mem_cons, List.not_mem_nil, or_false]
  have q := fun {a b : Int} (g : N58 a b) => h.iff g
  rw [q n58_at, q n58_if, q n58_or, q n58_way, q n58_own, q n58_and, q n58_not, q n58_all, q n58_min, q n58_max, q n58_room, q n58_door, q n58_wide, q n58_slow, q n58_floor, q n58_takes, q n58_chair, q n58_clock, q n58_person, q n58_strong, q n58_joined, q n58_stands, q n58_breaks, q n58_weight]
theorem n58_tok {u : Nat → Int} {k : Nat} (hk : 1 ≤ k ∧ k ≤ 6) (hu : ∀ i, i < k → 97 ≤ u i ∧ u i ≤ 122) : N58 (owPk u k * 32 ^ (6 - k)) (owP8 u k) := by
  have : k = 1 ∨ k = 2 ∨ k = 3 ∨ k = 4 ∨ k = 5 ∨ k = 6 := by omega
  rcases this with rfl | rfl | rfl | rfl | rfl | rfl
  · have h0 := hu 0 (by decide)
    refine Or.inr ⟨u 0 - 96, 0, 0, 0, 0, 0, by omega, by omega, by omega, by omega, by omega, by omega, by omega, by omega, by omega, by omega, by omega, by omega, by omega, by omega, by omega, by omega, ?_, ?_⟩
    · simp [owPk, n5d] <;> omega
    · simp [owP8, n8d] <;> (repeat' split) <;> omega
  · have h0 := hu 0 (by decide)
    have h1 := hu 1 (by decide)
    refine Or.inr ⟨u 0 - 96, u 1 - 96, 0, 0, 0, 0, by omega, by omega, by omega, by omega, by omega, by omega, by omega, by omega, by omega, by omega, by omega, by omega, by omega, by omega, by omega, by omega, ?_, ?_⟩
    · simp [owPk, n5d] <;> omega
    · simp [owP8, n8d] <;> (repeat' split) <;> omega
  · have h0 := hu 0 (by decide)
    have h1 := hu 1 (by decide)
    have h2 := hu 2 (by decide)
    refine Or.inr ⟨u 0 - 96, u 1 - 96, u 2 - 96, 0, 0, 0, by omega, by omega, by omega, by omega, by omega, by omega, by omega, by omega, by omega, by omega, by omega, by omega, by omega, by omega, by omega, by omega, ?_, ?_⟩
    · simp [owPk, n5d] <;> omega
    · simp [owP8, n8d] <;> (repeat' split) <;> omega
  · have h0 := hu 0 (by decide)
    have h1 := hu 1 (by decide)
    have h2 := hu 2 (by decide)
    have h3 := hu 3 (by decide)
    refine Or.inr ⟨u 0 - 96, u 1 - 96, u 2 - 96, u 3 - 96, 0, 0, by omega, by omega, by omega, by omega, by omega, by omega, by omega, by omega, by omega, by omega, by omega, by omega, by omega, by omega, by omega, by omega, ?_, ?_⟩
    · simp [owPk, n5d] <;> omega
    · simp [owP8, n8d] <;> (repeat' split) <;> omega
  · have h0 := hu 0 (by decide)
    have h1 := hu 1 (by decide)
    have h2 := hu 2 (by decide)
    have h3 := hu 3 (by decide)
    have h4 := hu 4 (by decide)
    refine Or.inr ⟨u 0 - 96, u 1 - 96, u 2 - 96, u 3 - 96, u 4 - 96, 0, by omega, by omega, by omega, by omega, by omega, by omega, by omega, by omega, by omega, by omega, by omega, by omega, by omega, by omega, by omega, by omega, ?_, ?_⟩
    · simp [owPk, n5d] <;> omega
    · simp [owP8, n8d] <;> (repeat' split) <;> omega
  · have h0 := hu 0 (by decide)
    have h1 := hu 1 (by decide)
    have h2 := hu 2 (by decide)
    have h3 := hu 3 (by decide)
    have h4 := hu 4 (by decide)
    have h5 := hu 5 (by decide)
    refine Or.inr ⟨u 0 - 96, u 1 - 96, u 2 - 96, u 3 - 96, u 4 - 96, u 5 - 96, by omega, by omega, by omega, by omega, by omega, by omega, by omega, by omega, by omega, by omega, by omega, by omega, by omega, by omega, by omega, by omega, ?_, ?_⟩
    · simp [owPk, n5d] <;> omega
    · simp [owP8, n8d] <;> (repeat' split) <;> omega
theorem owP8_lo {u : Nat → Int} : ∀ (k : Nat), (∀ i, i < k + 1 → 97 ≤ u i ∧ u i ≤ 122) → 97 * 256 ^ k ≤ owP8 u (k + 1)
  | 0, h => by
    have := h 0 (by omega)
    show 97 * 256 ^ 0 ≤ 256 * 0 + u 0
    omega
  | k + 1, h => by
    have h1 := owP8_lo k (fun i hi => h i (by omega))
    have h2 := h (k + 1) (by omega)
    show 97 * 256 ^ (k + 1) ≤ 256 * owP8 u (k + 1) + u (k + 1)
    rw [Int.pow_succ]
    omega
theorem carp_iff {u : Nat → Int} (hu : ∀ i, i < 9 → 97 ≤ u i ∧ u i ≤ 122) : (owP8 u 8 = 7161130709559440485 ∧ u 8 = 114) ↔ owPk u 9 = 3352764567730 := by
  have h0 := hu 0 (by decide)
  have h1 := hu 1 (by decide)
  have h2 := hu 2 (by decide)
  have h3 := hu 3 (by decide)
  have h4 := hu 4 (by decide)
  have h5 := hu 5 (by decide)
  have h6 := hu 6 (by decide)
  have h7 := hu 7 (by decide)
  have h8 := hu 8 (by decide)
  simp only [owP8, owPk]
  constructor
  · rintro ⟨g, g8⟩
    have g7 : u 7 = 101 := by omega
    have g6 : u 6 = 116 := by omega
    have g5 : u 5 = 110 := by omega
    have g4 : u 4 = 101 := by omega
    have g3 : u 3 = 112 := by omega
    have g2 : u 2 = 114 := by omega
    have g1 : u 1 = 97 := by omega
    have g0 : u 0 = 99 := by omega
    omega
  · intro g
    have g8 : u 8 = 114 := by omega
    have g7 : u 7 = 101 := by omega
    have g6 : u 6 = 116 := by omega
    have g5 : u 5 = 110 := by omega
    have g4 : u 4 = 101 := by omega
    have g3 : u 3 = 112 := by omega
    have g2 : u 2 = 114 := by omega
    have g1 : u 1 = 97 := by omega
    have g0 : u 0 = 99 := by omega
    exact ⟨by omega, g8⟩
/-- the reference stands behind the word that is next from p on -/
def LyA (M : cM) (s : Nat → Int) (n p : Int) : Prop := M 64 = s ∧ M 63 2 = n ∧ 0 ≤ p ∧ p ≤ n ∧ M 63 4 = owB s n p ∧ M 63 5 = owE s n p ∧ (owK s n p = 0 → M 63 3 = 0) ∧ (owK s n p = 1 ∨ owK s n p = 2 → M 63 3 = 1 ∧ N58 (owV s n p) (M 63 7)) ∧ (owK s n p = 3 → M 63 3 = 2 ∧ M 63 6 = owV s n p) ∧ (owK s n p = 4 → M 63 3 = 3 ∧ M 63 6 = owV s n p) ∧ (owK s n p = 5 → M 63 13 = owX s n p ∧ (M 63 3 = 1 ∨ M 63 3 = 2)) ∧ (owK s n p ≠ 5 → M 63 13 = -1) ∧ M 63 10 = -1
section LYA
variable {M : cM} {s : Nat → Int} {n p : Int}
theorem LyA.eE (h10 : M 63 10 = -1) (h1 : M 64 = s) (h2 : M 63 2 = n) (h0 : 0 ≤ p) (hn : p ≤ n) (h4 : M 63 4 = owB s n p) (h5 : M 63 5 = owB s n p) (hb : n ≤ owB s n p) (h3 : M 63 3 = 0) (h13 : M 63 13 = -1) : LyA M s n p := by
  have hK := owK0.mpr hb
  refine ⟨h1, h2, h0, hn, h4, ?_, fun _ => h3, fun g => by omega, fun g => by omega, fun g => by omega, fun g => by omega, fun _ => h13, h10⟩
  unfold owE
  rw [if_pos hb]
  exact h5
theorem LyA.eS {c : Int} (h10 : M 63 10 = -1) (h1 : M 64 = s) (h2 : M 63 2 = n) (h0 : 0 ≤ p) (hn : p ≤ n) (h4 : M 63 4 = owB s n p) (h5 : M 63 5 = owB s n p + 1) (hb : owB s n p < n) (hc : s (owB s n p).toNat = c) (hl : c < 97 ∨ 122 < c) (hd : c < 48 ∨ 57 < c) (h3 : M 63 3 = 3) (h6 : M 63 6 = c) (h13 : M 63 13 = -1) : LyA M s n p := by
  have hl' : ¬ owLt (s (owB s n p).toNat) := by rw [hc]; intro g; omega
  have hd' : ¬ owDg (s (owB s n p).toNat) := by rw [hc]; intro g; omega
  have hK := owK_4 hb hl' hd'
  have hs := ow_sign hn hK
  exact ⟨h1, h2, h0, hn, h4, by omega, fun g => by omega, fun g => by omega, fun g => by omega, fun _ => ⟨h3, by rw [hs.2.2.2.2, hc]; exact h6⟩, fun g => by omega, fun _ => h13, h10⟩
theorem LyA.eW (h10 : M 63 10 = -1) (h1 : M 64 = s) (h2 : M 63 2 = n) (h0 : 0 ≤ p) (hn : p ≤ n) (h4 : M 63 4 = owB s n p) (h5 : M 63 5 = owEw s n (owB s n p)) (hb : owB s n p < n) (hl : owLt (s (owB s n p).toNat)) (h3 : M 63 3 = 1) (hc : (owAd s (owB s n p) ∧ M 63 13 = owB s n p) ∨ (¬ owAd s (owB s n p) ∧ owCp s n (owB s n p) ∧ M 63 13 = -1 ∧ M 63 7 = 1) ∨ (¬ owAd s (owB s n p) ∧ ¬ owCp s n (owB s n p) ∧ 6 < owEw s n (owB s n p) - owB s n p ∧ M 63 13 = owB s n p + 6) ∨ (¬ owAd s (owB s n p) ∧ owEw s n (owB s n p) - owB s n p ≤ 6 ∧ M 63 13 = -1 ∧ M 63 7 = owP8 (owS s (owB s n p)) (owEw s n (owB s n p) - owB s n p).toNat)) : LyA M s n p := by
  have hE : owE s n p = owEw s n (owB s n p) := by unfold owE; rw [if_neg (by omega), if_pos hl]
  have hei := owEw_in (s := s) hb hl
  have hK : owK s n p = if owAd s (owB s n p) then 5 else owKw s n (owB s n p) := by
    unfold owK
    rw [if_neg (by omega), if_pos (Or.inl hl)]
    split
    · rfl
    · first | rfl | rw [if_pos hl]
  have hV : owV s n p = owVw s n (owB s n p) := by unfold owV; rw [if_pos hl]
  have hX : owX s n p = if owAd s (owB s n p) then owB s n p else owB s n p + 6 := by
    unfold owX
    split
    · rfl
    · first | rfl | rw [if_pos hl]
  have key : (owK s n p = 5 ∧ M 63 13 = owX s n p) ∨ ((owK s n p = 1 ∨ owK s n p = 2) ∧ M 63 13 = -1 ∧ N58 (owV s n p) (M 63 7)) := by
    rcases hc with ⟨a, b⟩ | ⟨a, b, c, d⟩ | ⟨a, b, c, d⟩ | ⟨a, b, c, d⟩
    · exact Or.inl ⟨by rw [hK, if_pos a], by rw [hX, if_pos a]; exact b⟩
    · have := owKw_cp b.1 b.2
      exact Or.inr ⟨Or.inl (by rw [hK, if_neg a]; exact this.1), c, by rw [hV, this.2, d]; exact n58_carp⟩
    · exact Or.inl ⟨by rw [hK, if_neg a]; exact owKw_long c b, by rw [hX, if_neg a]; exact d⟩
    · have hs := owKw_short b
      refine Or.inr ⟨?_, c, ?_⟩
      · rw [hK, if_neg a]
        by_cases g : owP6 s n (owB s n p) ∈ owOl
        · exact Or.inl (hs.2.1 g)
        · exact Or.inr (hs.2.2 g)
      · rw [hV, hs.1, d]
        unfold owP6
        rw [show (6 - (owEw s n (owB s n p) - owB s n p)).toNat = 6 - (owEw s n (owB s n p) - owB s n p).toNat by omega]
        exact n58_tok (by omega) (owS_lt (n := n) (Int.le_refl _))
  refine ⟨h1, h2, h0, hn, h4, by rw [hE]; exact h5, fun g => by omega, fun g => ⟨h3, ?_⟩, fun g => by omega, fun g => by omega, fun g => ?_, fun g => ?_, h10⟩
  · rcases key with ⟨k1, k2⟩ | ⟨k1, k2, k3⟩
    · omega
    · exact k3
  · rcases key with ⟨k1, k2⟩ | ⟨k1, k2, k3⟩
    · exact ⟨k2, by omega⟩
    · omega
  · rcases key with ⟨k1, k2⟩ | ⟨k1, k2, k3⟩
    · omega
    · exact k2
theorem LyA.eD (h10 : M 63 10 = -1) (h1 : M 64 = s) (h2 : M 63 2 = n) (h0 : 0 ≤ p) (hn : p ≤ n) (h4 : M 63 4 = owB s n p) (h5 : M 63 5 = owEn s n (owB s n p)) (hb : owB s n p < n) (hl : ¬ owLt (s (owB s n p).toNat)) (hd : owDg (s (owB s n p).toNat)) (h3 : M 63 3 = 2) (hc : (owAd s (owB s n p) ∧ M 63 13 = owB s n p) ∨ (¬ owAd s (owB s n p) ∧ 4 < owEn s n (owB s n p) - owB s n p ∧ M 63 13 = owB s n p + 4) ∨ (¬ owAd s (owB s n p) ∧ owEn s n (owB s n p) - owB s n p ≤ 4 ∧ M 63 13 = -1 ∧ M 63 6 = owPn (owS s (owB s n p)) (owEn s n (owB s n p) - owB s n p).toNat)) : LyA M s n p := by
  have hE : owE s n p = owEn s n (owB s n p) := by unfold owE; rw [if_neg (by omega), if_neg hl, if_pos hd]
  have hK : owK s n p = if owAd s (owB s n p) then 5 else owKn s n (owB s n p) := by
    unfold owK
    rw [if_neg (by omega), if_pos (Or.inr hd)]
    split
    · rfl
    · first | rfl | rw [if_neg hl]
  have hV : owV s n p = owVn s n (owB s n p) := by unfold owV; rw [if_neg hl, if_pos hd]
  have hX : owX s n p = if owAd s (owB s n p) then owB s n p else owB s n p + 4 := by
    unfold owX
    split
    · rfl
    · first | rfl | rw [if_neg hl]
  have key : (owK s n p = 5 ∧ M 63 13 = owX s n p) ∨ (owK s n p = 3 ∧ M 63 13 = -1 ∧ M 63 6 = owV s n p) := by
    rcases hc with ⟨a, b⟩ | ⟨a, b, c⟩ | ⟨a, b, c, d⟩
    · exact Or.inl ⟨by rw [hK, if_pos a], by rw [hX, if_pos a]; exact b⟩
    · exact Or.inl ⟨by rw [hK, if_neg a]; exact if_pos b, by rw [hX, if_neg a]; exact c⟩
    · exact Or.inr ⟨by rw [hK, if_neg a]; exact if_neg (by omega), c, by rw [hV]; exact d⟩
  refine ⟨h1, h2, h0, hn, h4, by rw [hE]; exact h5, fun g => by omega, fun g => by omega, fun g => ⟨h3, ?_⟩, fun g => by omega, fun g => ?_, fun g => ?_, h10⟩
  · rcases key with ⟨k1, k2⟩ | ⟨k1, k2, k3⟩
    · omega
    · exact k3
  · rcases key with ⟨k1, k2⟩ | ⟨k1, k2, k3⟩
    · exact ⟨k2, by omega⟩
    · omega
  · rcases key with ⟨k1, k2⟩ | ⟨k1, k2, k3⟩
    · omega
    · exact k2
end LYA
/-- the bad place so far -/
def LxT (x : Int) (ad : Prop) (b a m : Int) : Prop := (ad ∧ x = b) ∨ (¬ ad ∧ ((m < a - b ∧ x = b + m) ∨ (a - b ≤ m ∧ x = -1)))
theorem LxT.step {x y : Int} {ad : Prop} {b a m : Int} (h : LxT x ad b a m) (hb : 0 ≤ b) (hm : 0 < m) (hy : (a - b = m ∧ x = -1 ∧ y = a) ∨ ((a - b ≠ m ∨ x ≠ -1) ∧ y = x)) : LxT y ad b (a + 1) m := by
  unfold LxT at h ⊢
  rcases h with ⟨h1, h2⟩ | ⟨h1, h2⟩
  · exact Or.inl ⟨h1, by omega⟩
  · exact Or.inr ⟨h1, by omega⟩
def WdT (x : Int) (u : Nat → Int) (k : Int) : Prop := (k ≤ 8 → x = owP8 u k.toNat) ∧ (8 ≤ k → x = owP8 u 8)
theorem WdT.step {x y : Int} {u : Nat → Int} {k : Int} (h : WdT x u k) (h0 : 0 ≤ k) (hu : ∀ i : Nat, (i : Int) ≤ k → 97 ≤ u i ∧ u i ≤ 122) (hy : (k < 8 ∧ y = owLor (owShl x 8) (u k.toNat)) ∨ (8 ≤ k ∧ y = x)) : WdT y u (k + 1) := by
  rcases hy with ⟨h1, h2⟩ | ⟨h1, h2⟩
  · have hx := h.1 (by omega)
    have hr := owP8_rng (u := u) k.toNat (fun i hi => by have := hu i (by omega); omega)
    have hp : (256 : Int) ^ k.toNat ≤ 256 ^ 7 := by
      have := Int.ofNat_le.mpr (Nat.pow_le_pow_right (show 0 < 256 by decide) (show k.toNat ≤ 7 by omega))
      rw [Int.natCast_pow, Int.natCast_pow] at this
      exact this
    have h7 : (256 : Int) ^ 7 = 72057594037927936 := by decide
    have hk := hu k.toNat (by omega)
    by_cases h6 : owP8 u k.toNat ≤ 36028797018963967
    · have e : y = owP8 u (k + 1).toNat := by
        rw [h2, hx, owLor_8 hr.1 h6 (by omega) (by omega), show (k + 1).toNat = k.toNat + 1 by omega]
        rfl
      refine ⟨fun _ => e, fun g => ?_⟩
      rw [e, show (k + 1).toNat = 8 by omega]
    · exfalso
      have hq : owP8 u k.toNat < 122 * 256 ^ 6 + 256 ^ 6 := by
        have hk7 : k.toNat = 7 ∨ k.toNat ≤ 6 := by omega
        rcases hk7 with e | e
        · rw [e]
          have a0 := hu 0 (by omega)
          have a1 := hu 1 (by omega)
          have a2 := hu 2 (by omega)
          have a3 := hu 3 (by omega)
          have a4 := hu 4 (by omega)
          have a5 := hu 5 (by omega)
          have a6 := hu 6 (by omega)
          simp only [owP8]
          omega
        · have hp2 : (256 : Int) ^ k.toNat ≤ 256 ^ 6 := by
            have := Int.ofNat_le.mpr (Nat.pow_le_pow_right (show 0 < 256 by decide) e)
            rw [Int.natCast_pow, Int.natCast_pow] at this
            exact this
          omega
      have h62 : (256 : Int) ^ 6 = 281474976710656 := by decide
      omega
  · refine ⟨fun g => by omega, fun _ => ?_⟩
    rw [h2]
    exact h.2 h1
def NiT (x : Int) (u : Nat → Int) (k : Int) : Prop := 9 ≤ k → x = u 8
def VaT (x : Int) (u : Nat → Int) (k : Int) : Prop := (k ≤ 4 → x = owPn u k.toNat) ∧ (4 ≤ k → x = owPn u 4)
def isO8 (w : Int) : Prop := w = 1 ∨ w = 1919905645 ∨ w = 1685024626 ∨ w = 439905906546 ∨ w = 7823737 ∨ w = 499850634611 ∨ w = 123581014175598 ∨ w = 126943973305959 ∨ w = 426952976754 ∨ w = 2003395685 ∨ w = 24948 ∨ w = 117026742756708 ∨ w = 1936486263 ∨ w = 126943688025203 ∨ w = 108243466677107 ∨ w = 131277443786868 ∨ w = 427021001579 ∨ w = 7305070 ∨ w = 26982 ∨ w = 28530 ∨ w = 6385252 ∨ w = 7237492 ∨ w = 6384748 ∨ w = 7170414 ∨ w = 7168376
theorem isO8_iff {w : Int} : isO8 w ↔ (w = 1 ∨ w ∈ owO8) := by
  unfold isO8
  simp only [owO8, List.mem_cons, List.not_mem_nil, or_false]
  omega
theorem f_184 {xs : Nat → Int} {Ln d : Nat} {T : List cK} {M : cM} (hT : TT T) (hI : Rng M) {w : Int} (p0 : (-9223372036854775808) ≤ w ∧ w ≤ 9223372036854775807) : cC k_P xs Ln (d + 0) 184 [rf 63, (1, w)] (T, M) (qF T M 0 (fun v => (v = 1 ∧ isO8 w) ∨ (v = 0 ∧ ¬ isO8 w))) := by
  show cP k_P xs Ln (d + 0) 184 0 [(0, rf 63), (1, (1, w))] [] (T, M) _
  refine s_lload_n kx_184_0 rfl ?_
  refine s_lconst (v := 1) kx_184_1 (by decide) ?_
  refine r_lcmpE kx_184_2 ⟨by omega, by omega⟩ ⟨by omega, by omega⟩ (fun v1 v1p => ?_)
  refine s_if_ne (t := 8) kx_184_3 (by decide) (fun hc2 => ?_) (fun hc2 => ?_)
  · refine s_lload_n kx_184_8 rfl ?_
    refine s_ldc2_w kx_184_9 kp_184_289 ?_
    refine r_lcmpE kx_184_12 ⟨by omega, by omega⟩ ⟨by omega, by omega⟩ (fun v3 v3p => ?_)
    refine s_if_eq (t := 48) kx_184_13 (by decide) (fun hc4 => ?_) (fun hc4 => ?_)
    · refine s_iconst (v := 1) kx_184_48 (by decide) ?_
      exact s_iret kx_184_49 (Or.inr ⟨kq_184, by omega⟩) ⟨_, rfl, rfl, (Or.inl ⟨rfl, by unfold isO8; omega⟩)⟩
    · refine s_lload_n kx_184_16 rfl ?_
      refine s_ldc2_w kx_184_17 kp_184_291 ?_
      refine r_lcmpE kx_184_20 ⟨by omega, by omega⟩ ⟨by omega, by omega⟩ (fun v5 v5p => ?_)
      refine s_if_eq (t := 48) kx_184_21 (by decide) (fun hc6 => ?_) (fun hc6 => ?_)
      · refine s_iconst (v := 1) kx_184_48 (by decide) ?_
        exact s_iret kx_184_49 (Or.inr ⟨kq_184, by omega⟩) ⟨_, rfl, rfl, (Or.inl ⟨rfl, by unfold isO8; omega⟩)⟩
      · refine s_lload_n kx_184_24 rfl ?_
        refine s_ldc2_w kx_184_25 kp_184_293 ?_
        refine r_lcmpE kx_184_28 ⟨by omega, by omega⟩ ⟨by omega, by omega⟩ (fun v7 v7p => ?_)
        refine s_if_eq (t := 48) kx_184_29 (by decide) (fun hc8 => ?_) (fun hc8 => ?_)
        · refine s_iconst (v := 1) kx_184_48 (by decide) ?_
          exact s_iret kx_184_49 (Or.inr ⟨kq_184, by omega⟩) ⟨_, rfl, rfl, (Or.inl ⟨rfl, by unfold isO8; omega⟩)⟩
        · refine s_lload_n kx_184_32 rfl ?_
          refine s_ldc2_w kx_184_33 kp_184_295 ?_
          refine r_lcmpE kx_184_36 ⟨by omega, by omega⟩ ⟨by omega, by omega⟩ (fun v9 v9p => ?_)
          refine s_if_eq (t := 48) kx_184_37 (by decide) (fun hc10 => ?_) (fun hc10 => ?_)
          · refine s_iconst (v := 1) kx_184_48 (by decide) ?_
            exact s_iret kx_184_49 (Or.inr ⟨kq_184, by omega⟩) ⟨_, rfl, rfl, (Or.inl ⟨rfl, by unfold isO8; omega⟩)⟩
          · refine s_lload_n kx_184_40 rfl ?_
            refine s_ldc2_w kx_184_41 kp_184_297 ?_
            refine r_lcmpE kx_184_44 ⟨by omega, by omega⟩ ⟨by omega, by omega⟩ (fun v11 v11p => ?_)
            refine s_if_ne (t := 50) kx_184_45 (by decide) (fun hc12 => ?_) (fun hc12 => ?_)
            · refine s_lload_n kx_184_50 rfl ?_
              refine s_ldc2_w kx_184_51 kp_184_299 ?_
              refine r_lcmpE kx_184_54 ⟨by omega, by omega⟩ ⟨by omega, by omega⟩ (fun v13 v13p => ?_)
              refine s_if_eq (t := 90) kx_184_55 (by decide) (fun hc14 => ?_) (fun hc14 => ?_)
              · refine s_iconst (v := 1) kx_184_90 (by decide) ?_
                exact s_iret kx_184_91 (Or.inr ⟨kq_184, by omega⟩) ⟨_, rfl, rfl, (Or.inl ⟨rfl, by unfold isO8; omega⟩)⟩
              · refine s_lload_n kx_184_58 rfl ?_
                refine s_ldc2_w kx_184_59 kp_184_301 ?_
                refine r_lcmpE kx_184_62 ⟨by omega, by omega⟩ ⟨by omega, by omega⟩ (fun v15 v15p => ?_)
                refine s_if_eq (t := 90) kx_184_63 (by decide) (fun hc16 => ?_) (fun hc16 => ?_)
                · refine s_iconst (v := 1) kx_184_90 (by decide) ?_
                  exact s_iret kx_184_91 (Or.inr ⟨kq_184, by omega⟩) ⟨_, rfl, rfl, (Or.inl ⟨rfl, by unfold isO8; omega⟩)⟩
                · refine s_lload_n kx_184_66 rfl ?_
                  refine s_ldc2_w kx_184_67 kp_184_303 ?_
                  refine r_lcmpE kx_184_70 ⟨by omega, by omega⟩ ⟨by omega, by omega⟩ (fun v17 v17p => ?_)
                  refine s_if_eq (t := 90) kx_184_71 (by decide) (fun hc18 => ?_) (fun hc18 => ?_)
                  · refine s_iconst (v := 1) kx_184_90 (by decide) ?_
                    exact s_iret kx_184_91 (Or.inr ⟨kq_184, by omega⟩) ⟨_, rfl, rfl, (Or.inl ⟨rfl, by unfold isO8; omega⟩)⟩
                  · refine s_lload_n kx_184_74 rfl ?_
                    refine s_ldc2_w kx_184_75 kp_184_305 ?_
                    refine r_lcmpE kx_184_78 ⟨by omega, by omega⟩ ⟨by omega, by omega⟩ (fun v19 v19p => ?_)
                    refine s_if_eq (t := 90) kx_184_79 (by decide) (fun hc20 => ?_) (fun hc20 => ?_)
                    · refine s_iconst (v := 1) kx_184_90 (by decide) ?_
                      exact s_iret kx_184_91 (Or.inr ⟨kq_184, by omega⟩) ⟨_, rfl, rfl, (Or.inl ⟨rfl, by unfold isO8; omega⟩)⟩
                    · refine s_lload_n kx_184_82 rfl ?_
                      refine s_ldc2_w kx_184_83 kp_184_307 ?_
                      refine r_lcmpE kx_184_86 ⟨by omega, by omega⟩ ⟨by omega, by omega⟩ (fun v21 v21p => ?_)
                      refine s_if_ne (t := 92) kx_184_87 (by decide) (fun hc22 => ?_) (fun hc22 => ?_)
                      · refine s_lload_n kx_184_92 rfl ?_
                        refine s_ldc2_w kx_184_93 kp_184_309 ?_
                        refine r_lcmpE kx_184_96 ⟨by omega, by omega⟩ ⟨by omega, by omega⟩ (fun v23 v23p => ?_)
                        refine s_if_eq (t := 132) kx_184_97 (by decide) (fun hc24 => ?_) (fun hc24 => ?_)
                        · refine s_iconst (v := 1) kx_184_132 (by decide) ?_
                          exact s_iret kx_184_133 (Or.inr ⟨kq_184, by omega⟩) ⟨_, rfl, rfl, (Or.inl ⟨rfl, by unfold isO8; omega⟩)⟩
                        · refine s_lload_n kx_184_100 rfl ?_
                          refine s_ldc2_w kx_184_101 kp_184_311 ?_
                          refine r_lcmpE kx_184_104 ⟨by omega, by omega⟩ ⟨by omega, by omega⟩ (fun v25 v25p => ?_)
                          refine s_if_eq (t := 132) kx_184_105 (by decide) (fun hc26 => ?_) (fun hc26 => ?_)
                          · refine s_iconst (v := 1) kx_184_132 (by decide) ?_
                            exact s_iret kx_184_133 (Or.inr ⟨kq_184, by omega⟩) ⟨_, rfl, rfl, (Or.inl ⟨rfl, by unfold isO8; omega⟩)⟩
                          · refine s_lload_n kx_184_108 rfl ?_
                            refine s_ldc2_w kx_184_109 kp_184_313 ?_
                            refine r_lcmpE kx_184_112 ⟨by omega, by omega⟩ ⟨by omega, by omega⟩ (fun v27 v27p => ?_)
                            refine s_if_eq (t := 132) kx_184_113 (by decide) (fun hc28 => ?_) (fun hc28 => ?_)
                            · refine s_iconst (v := 1) kx_184_132 (by decide) ?_
                              exact s_iret kx_184_133 (Or.inr ⟨kq_184, by omega⟩) ⟨_, rfl, rfl, (Or.inl ⟨rfl, by unfold isO8; omega⟩)⟩
                            · refine s_lload_n kx_184_116 rfl ?_
                              refine s_ldc2_w kx_184_117 kp_184_315 ?_
                              refine r_lcmpE kx_184_120 ⟨by omega, by omega⟩ ⟨by omega, by omega⟩ (fun v29 v29p => ?_)
                              refine s_if_eq (t := 132) kx_184_121 (by decide) (fun hc30 => ?_) (fun hc30 => ?_)
                              · refine s_iconst (v := 1) kx_184_132 (by decide) ?_
                                exact s_iret kx_184_133 (Or.inr ⟨kq_184, by omega⟩) ⟨_, rfl, rfl, (Or.inl ⟨rfl, by unfold isO8; omega⟩)⟩
                              · refine s_lload_n kx_184_124 rfl ?_
                                refine s_ldc2_w kx_184_125 kp_184_317 ?_
                                refine r_lcmpE kx_184_128 ⟨by omega, by omega⟩ ⟨by omega, by omega⟩ (fun v31 v31p => ?_)
                                refine s_if_ne (t := 134) kx_184_129 (by decide) (fun hc32 => ?_) (fun hc32 => ?_)
                                · refine s_lload_n kx_184_134 rfl ?_
                                  refine s_ldc2_w kx_184_135 kp_184_319 ?_
                                  refine r_lcmpE kx_184_138 ⟨by omega, by omega⟩ ⟨by omega, by omega⟩ (fun v33 v33p => ?_)
                                  refine s_if_eq (t := 174) kx_184_139 (by decide) (fun hc34 => ?_) (fun hc34 => ?_)
                                  · refine s_iconst (v := 1) kx_184_174 (by decide) ?_
                                    exact s_iret kx_184_175 (Or.inr ⟨kq_184, by omega⟩) ⟨_, rfl, rfl, (Or.inl ⟨rfl, by unfold isO8; omega⟩)⟩
                                  · refine s_lload_n kx_184_142 rfl ?_
                                    refine s_ldc2_w kx_184_143 kp_184_321 ?_
                                    refine r_lcmpE kx_184_146 ⟨by omega, by omega⟩ ⟨by omega, by omega⟩ (fun v35 v35p => ?_)
                                    refine s_if_eq (t := 174) kx_184_147 (by decide) (fun hc36 => ?_) (fun hc36 => ?_)
                                    · refine s_iconst (v := 1) kx_184_174 (by decide) ?_
                                      exact s_iret kx_184_175 (Or.inr ⟨kq_184, by omega⟩) ⟨_, rfl, rfl, (Or.inl ⟨rfl, by unfold isO8; omega⟩)⟩
                                    · refine s_lload_n kx_184_150 rfl ?_
                                      refine s_ldc2_w kx_184_151 kp_184_323 ?_
                                      refine r_lcmpE kx_184_154 ⟨by omega, by omega⟩ ⟨by omega, by omega⟩ (fun v37 v37p => ?_)
                                      refine s_if_eq (t := 174) kx_184_155 (by decide) (fun hc38 => ?_) (fun hc38 => ?_)
                                      · refine s_iconst (v := 1) kx_184_174 (by decide) ?_
                                        exact s_iret kx_184_175 (Or.inr ⟨kq_184, by omega⟩) ⟨_, rfl, rfl, (Or.inl ⟨rfl, by unfold isO8; omega⟩)⟩
                                      · refine s_lload_n kx_184_158 rfl ?_
                                        refine s_ldc2_w kx_184_159 kp_184_325 ?_
                                        refine r_lcmpE kx_184_162 ⟨by omega, by omega⟩ ⟨by omega, by omega⟩ (fun v39 v39p => ?_)
                                        refine s_if_eq (t := 174) kx_184_163 (by decide) (fun hc40 => ?_) (fun hc40 => ?_)
                                        · refine s_iconst (v := 1) kx_184_174 (by decide) ?_
                                          exact s_iret kx_184_175 (Or.inr ⟨kq_184, by omega⟩) ⟨_, rfl, rfl, (Or.inl ⟨rfl, by unfold isO8; omega⟩)⟩
                                        · refine s_lload_n kx_184_166 rfl ?_
                                          refine s_ldc2_w kx_184_167 kp_184_327 ?_
                                          refine r_lcmpE kx_184_170 ⟨by omega, by omega⟩ ⟨by omega, by omega⟩ (fun v41 v41p => ?_)
                                          refine s_if_ne (t := 176) kx_184_171 (by decide) (fun hc42 => ?_) (fun hc42 => ?_)
                                          · refine s_lload_n kx_184_176 rfl ?_
                                            refine s_ldc2_w kx_184_177 kp_184_329 ?_
                                            refine r_lcmpE kx_184_180 ⟨by omega, by omega⟩ ⟨by omega, by omega⟩ (fun v43 v43p => ?_)
                                            refine s_if_eq (t := 208) kx_184_181 (by decide) (fun hc44 => ?_) (fun hc44 => ?_)
                                            · refine s_iconst (v := 1) kx_184_208 (by decide) ?_
                                              exact s_iret kx_184_209 (Or.inr ⟨kq_184, by omega⟩) ⟨_, rfl, rfl, (Or.inl ⟨rfl, by unfold isO8; omega⟩)⟩
                                            · refine s_lload_n kx_184_184 rfl ?_
                                              refine s_ldc2_w kx_184_185 kp_184_331 ?_
                                              refine r_lcmpE kx_184_188 ⟨by omega, by omega⟩ ⟨by omega, by omega⟩ (fun v45 v45p => ?_)
                                              refine s_if_eq (t := 208) kx_184_189 (by decide) (fun hc46 => ?_) (fun hc46 => ?_)
                                              · refine s_iconst (v := 1) kx_184_208 (by decide) ?_
                                                exact s_iret kx_184_209 (Or.inr ⟨kq_184, by omega⟩) ⟨_, rfl, rfl, (Or.inl ⟨rfl, by unfold isO8; omega⟩)⟩
                                              · refine s_lload_n kx_184_192 rfl ?_
                                                refine s_ldc2_w kx_184_193 kp_184_333 ?_
                                                refine r_lcmpE kx_184_196 ⟨by omega, by omega⟩ ⟨by omega, by omega⟩ (fun v47 v47p => ?_)
                                                refine s_if_eq (t := 208) kx_184_197 (by decide) (fun hc48 => ?_) (fun hc48 => ?_)
                                                · refine s_iconst (v := 1) kx_184_208 (by decide) ?_
                                                  exact s_iret kx_184_209 (Or.inr ⟨kq_184, by omega⟩) ⟨_, rfl, rfl, (Or.inl ⟨rfl, by unfold isO8; omega⟩)⟩
                                                · refine s_lload_n kx_184_200 rfl ?_
                                                  refine s_ldc2_w kx_184_201 kp_184_335 ?_
                                                  refine r_lcmpE kx_184_204 ⟨by omega, by omega⟩ ⟨by omega, by omega⟩ (fun v49 v49p => ?_)
                                                  refine s_if_ne (t := 210) kx_184_205 (by decide) (fun hc50 => ?_) (fun hc50 => ?_)
                                                  · refine s_iconst (v := 0) kx_184_210 (by decide) ?_
                                                    exact s_iret kx_184_211 (Or.inr ⟨kq_184, by omega⟩) ⟨_, rfl, rfl, (Or.inr ⟨rfl, by unfold isO8; omega⟩)⟩
                                                  · refine s_iconst (v := 1) kx_184_208 (by decide) ?_
                                                    exact s_iret kx_184_209 (Or.inr ⟨kq_184, by omega⟩) ⟨_, rfl, rfl, (Or.inl ⟨rfl, by unfold isO8; omega⟩)⟩
                                          · refine s_iconst (v := 1) kx_184_174 (by decide) ?_
                                            exact s_iret kx_184_175 (Or.inr ⟨kq_184, by omega⟩) ⟨_, rfl, rfl, (Or.inl ⟨rfl, by unfold isO8; omega⟩)⟩
                                · refine s_iconst (v := 1) kx_184_132 (by decide) ?_
                                  exact s_iret kx_184_133 (Or.inr ⟨kq_184, by omega⟩) ⟨_, rfl, rfl, (Or.inl ⟨rfl, by unfold isO8; omega⟩)⟩
                      · refine s_iconst (v := 1) kx_184_90 (by decide) ?_
                        exact s_iret kx_184_91 (Or.inr ⟨kq_184, by omega⟩) ⟨_, rfl, rfl, (Or.inl ⟨rfl, by unfold isO8; omega⟩)⟩
            · refine s_iconst (v := 1) kx_184_48 (by decide) ?_
              exact s_iret kx_184_49 (Or.inr ⟨kq_184, by omega⟩) ⟨_, rfl, rfl, (Or.inl ⟨rfl, by unfold isO8; omega⟩)⟩
  · refine s_iconst (v := 1) kx_184_6 (by decide) ?_
    exact s_iret kx_184_7 (Or.inr ⟨kq_184, by omega⟩) ⟨_, rfl, rfl, (Or.inl ⟨rfl, by unfold isO8; omega⟩)⟩
