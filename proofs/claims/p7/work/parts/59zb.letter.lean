/-! letters of names: five bits and eight bits a letter -/
def lsh (v w : Int) : Int := (Int64.ofInt v >>> ((Int32.ofInt w).toInt64 &&& 63)).toInt
def lan (v w : Int) : Int := c_binL (· &&& ·) v w
theorem lan_r (x : Int) : 0 ≤ lan x 255 ∧ lan x 255 ≤ 255 := c_landM (by decide) (by decide)
theorem lsh_eq {v w : Int} (m : Nat) (hv : 0 ≤ v) (hv2 : v ≤ 9223372036854775807) (e : ((Int32.ofInt w).toInt64 &&& 63).toBitVec.smod 64 = BitVec.ofNat 64 m) (hm : m < 64) : lsh v w = v / 2 ^ m := by
  unfold lsh
  rw [← Int64.toInt_toBitVec, Int64.toBitVec_shiftRight]
  have e3 : ((Int64.ofInt v).toBitVec.sshiftRight' (((Int32.ofInt w).toInt64 &&& 63).toBitVec.smod 64)) = (Int64.ofInt v).toBitVec.sshiftRight m := by
    show (Int64.ofInt v).toBitVec.sshiftRight (((Int32.ofInt w).toInt64 &&& 63).toBitVec.smod 64).toNat = _
    rw [e, BitVec.toNat_ofNat, Nat.mod_eq_of_lt (by omega)]
  rw [e3, BitVec.toInt_sshiftRight, Int64.toInt_toBitVec, bmod64 (by omega) hv2, Int.shiftRight_eq_div_pow, Int.natCast_pow]
  rfl
theorem lsh8 {v : Int} (hv : 0 ≤ v) (hv2 : v ≤ 281474976710656) : lsh v 8 = v / 256 := lsh_eq 8 hv (by omega) (by decide) (by decide)
theorem lan_eq {v : Int} (hv : 0 ≤ v) (hv2 : v ≤ 281474976710656) : lan v 255 = v % 256 := by
  unfold lan c_binL
  rw [← Int64.toInt_toBitVec, Int64.toBitVec_and]
  have e : (Int64.ofInt v).toBitVec.toNat = v.toNat := by
    have h1 : (Int64.ofInt v).toBitVec.toInt = v := by rw [Int64.toInt_toBitVec]; exact bmod64 (by omega) (by omega)
    have h2 := (Int64.ofInt v).toBitVec.isLt
    rw [BitVec.toInt_eq_toNat_cond] at h1
    split at h1 <;> omega
  have e2 : (Int64.ofInt 255).toBitVec.toNat = 2 ^ 8 - 1 := by decide
  have e3 : ((Int64.ofInt v).toBitVec &&& (Int64.ofInt 255).toBitVec).toNat = v.toNat % 256 := by
    rw [BitVec.toNat_and, e, e2, Nat.and_two_pow_sub_one_eq_mod]
  rw [BitVec.toInt_eq_toNat_cond, e3, if_pos (by omega)]
  omega
theorem tbS_eq {v w : Int} (m : Nat) (hv : 0 ≤ v) (hv2 : v ≤ 2147483647) (e : (Int32.ofInt w &&& 31).toBitVec.smod 32 = BitVec.ofNat 32 m) (hm : m < 32) : tbS v w = v / 2 ^ m := by
  unfold tbS c_bin
  rw [← Int32.toInt_toBitVec, Int32.toBitVec_shiftRight]
  have e3 : ((Int32.ofInt v).toBitVec.sshiftRight' ((Int32.ofInt w &&& 31).toBitVec.smod 32)) = (Int32.ofInt v).toBitVec.sshiftRight m := by
    show (Int32.ofInt v).toBitVec.sshiftRight ((Int32.ofInt w &&& 31).toBitVec.smod 32).toNat = _
    rw [e, BitVec.toNat_ofNat, Nat.mod_eq_of_lt (by omega)]
  have e4 : (Int32.ofInt v).toInt = v := by have hs : ((Int32.size : Nat) : Int) = 4294967296 := rfl; rw [Int32.toInt_ofInt]; exact Int.bmod_eq_of_le (by omega) (by omega)
  rw [e3, BitVec.toInt_sshiftRight, Int32.toInt_toBitVec, e4, Int.shiftRight_eq_div_pow, Int.natCast_pow]
  rfl
theorem tbA_eq {v : Int} (hv : 0 ≤ v) (hv2 : v ≤ 2147483647) : tbA v 31 = v % 32 := by
  unfold tbA c_bin
  rw [← Int32.toInt_toBitVec, Int32.toBitVec_and]
  have e4 : (Int32.ofInt v).toInt = v := by have hs : ((Int32.size : Nat) : Int) = 4294967296 := rfl; rw [Int32.toInt_ofInt]; exact Int.bmod_eq_of_le (by omega) (by omega)
  have e : (Int32.ofInt v).toBitVec.toNat = v.toNat := by
    have h1 : (Int32.ofInt v).toBitVec.toInt = v := by rw [Int32.toInt_toBitVec]; exact e4
    have h2 := (Int32.ofInt v).toBitVec.isLt
    rw [BitVec.toInt_eq_toNat_cond] at h1
    split at h1 <;> omega
  have e2 : (Int32.ofInt 31).toBitVec.toNat = 2 ^ 5 - 1 := by decide
  have e3 : ((Int32.ofInt v).toBitVec &&& (Int32.ofInt 31).toBitVec).toNat = v.toNat % 32 := by
    rw [BitVec.toNat_and, e, e2, Nat.and_two_pow_sub_one_eq_mod]
  rw [BitVec.toInt_eq_toNat_cond, e3, if_pos (by omega)]
  omega
/-- letter k in five bits a letter -/
theorem l5_eq {x k : Int} (hx : 0 ≤ x) (hx2 : x < 1073741824) (hk : 0 ≤ k ∧ k ≤ 5) : tbA (tbS x (25 - 5 * k)) 31 = (if k = 0 then x / 33554432 else if k = 1 then x / 1048576 else if k = 2 then x / 32768 else if k = 3 then x / 1024 else if k = 4 then x / 32 else x) % 32 := by
  have key : ∀ (m : Nat) (w : Int), (Int32.ofInt w &&& 31).toBitVec.smod 32 = BitVec.ofNat 32 m → m < 32 → tbA (tbS x w) 31 = x / 2 ^ m % 32 := by
    intro m w e hm
    rw [tbS_eq m hx (by omega) e hm]
    have h1 : 0 ≤ x / 2 ^ m := Int.ediv_nonneg hx (Int.le_of_lt (Int.pow_pos (by decide)))
    have h2 : x / 2 ^ m ≤ x := Int.ediv_le_self _ hx
    exact tbA_eq h1 (by omega)
  rcases (by omega : k = 0 ∨ k = 1 ∨ k = 2 ∨ k = 3 ∨ k = 4 ∨ k = 5) with rfl | rfl | rfl | rfl | rfl | rfl
  · exact key 25 _ (by decide) (by decide)
  · exact key 20 _ (by decide) (by decide)
  · exact key 15 _ (by decide) (by decide)
  · exact key 10 _ (by decide) (by decide)
  · exact key 5 _ (by decide) (by decide)
  · have := key 0 0 (by decide) (by decide)
    rw [show (25 - 5 * (5 : Int)) = 0 by decide, this]
    simp
/-- byte m from the right -/
theorem l8_eq {y w : Int} (m : Nat) (hy : 0 ≤ y) (hy2 : y < 281474976710656) (hw : w = 8 * ((m : Nat) : Int)) (hm : m ≤ 5) : lan (lsh y w) 255 = y / 256 ^ m % 256 := by
  have key : ∀ (j : Nat), ((Int32.ofInt w).toInt64 &&& 63).toBitVec.smod 64 = BitVec.ofNat 64 j → j < 64 → lan (lsh y w) 255 = y / 2 ^ j % 256 := by
    intro j e hj
    rw [lsh_eq j hy (by omega) e hj]
    have h1 : 0 ≤ y / 2 ^ j := Int.ediv_nonneg hy (Int.le_of_lt (Int.pow_pos (by decide)))
    have h2 : y / 2 ^ j ≤ y := Int.ediv_le_self _ hy
    exact lan_eq h1 (by omega)
  subst hw
  rcases (by omega : m = 0 ∨ m = 1 ∨ m = 2 ∨ m = 3 ∨ m = 4 ∨ m = 5) with rfl | rfl | rfl | rfl | rfl | rfl
  · exact key 0 (by decide) (by decide)
  · exact key 8 (by decide) (by decide)
  · exact key 16 (by decide) (by decide)
  · exact key 24 (by decide) (by decide)
  · exact key 32 (by decide) (by decide)
  · exact key 40 (by decide) (by decide)
theorem qB_s {W x n : Int} (h : x = W / 256 ^ n.toNat) (hn : 0 ≤ n) : x / 256 = W / 256 ^ (n + 1).toNat := by
  rw [h, show (n + 1).toNat = n.toNat + 1 by omega, Int.pow_succ, Int.ediv_ediv_of_nonneg (Int.le_of_lt (Int.pow_pos (by decide)))]
theorem qB_hi {W x n : Int} (h : x = W / 256 ^ n.toNat) (h0 : 0 ≤ W) (hW : W < 281474976710656) (hx : 0 < x) (hn : 0 ≤ n) (h6 : n ≤ 6) : n ≤ 5 := by
  rcases (by omega : n ≤ 5 ∨ n = 6) with g | rfl
  · exact g
  · rw [show (6 : Int).toNat = 6 from rfl, show (256 : Int) ^ 6 = 281474976710656 by decide] at h
    omega
theorem pw {y n : Int} (h0 : 0 ≤ n) (h6 : n ≤ 6) : y / 256 ^ n.toNat = (if n = 0 then y else if n = 1 then y / 256 else if n = 2 then y / 65536 else if n = 3 then y / 16777216 else if n = 4 then y / 4294967296 else if n = 5 then y / 1099511627776 else y / 281474976710656) := by
  rcases (by omega : n = 0 ∨ n = 1 ∨ n = 2 ∨ n = 3 ∨ n = 4 ∨ n = 5 ∨ n = 6) with rfl | rfl | rfl | rfl | rfl | rfl | rfl
  · show y / 1 = y
    exact Int.ediv_one y
  · rfl
  · rfl
  · rfl
  · rfl
  · rfl
  · rfl
/-- the reference's letter -/
def l8v (W k v : Int) : Prop := ∃ n : Int, 0 ≤ n ∧ n ≤ 6 ∧ W / 256 ^ n.toNat ≤ 0 ∧ (n = 0 ∨ 0 < W / 256 ^ (n - 1).toNat) ∧ ((n ≤ k ∧ v = 0) ∨ (k < n ∧ v = lan (lsh W (8 * (n - 1 - k))) 255 - 97 + 1))
theorem l58 {x y k v : Int} (h : N58 x y) (h1 : x ≠ 1) (hk : 0 ≤ k ∧ k ≤ 5) (hv : l8v y k v) : tbA (tbS x (25 - 5 * k)) 31 = v := by
  obtain ⟨n, n0, n6, q1, q2, q3⟩ := hv
  have hr := h.rng
  rcases h with h | ⟨a, b, c, d, e, f, a1, a2, b1, b2, c1, c2, d1, d2, e1, e2, f1, f2, z1, z2, z3, z4, hx, hy⟩
  · exact absurd h.1 h1
  · have hxr : 0 ≤ x ∧ x < 1073741824 := by unfold n5d at hx; omega
    rw [l5_eq hxr.1 hxr.2 hk]
    have hq : v = (if n ≤ k then 0 else y / 256 ^ (n - 1 - k).toNat % 256 - 96) := by
      rcases q3 with ⟨g1, g2⟩ | ⟨g1, g2⟩
      · rw [if_pos g1]; exact g2
      · rw [if_neg (by omega), g2, l8_eq (n - 1 - k).toNat (by omega) hr.2 (by omega) (by omega)]
        omega
    rw [hq]
    clear hq q3
    unfold n5d at hx
    unfold n8d at hy
    have hyc : (b = 0 ∧ c = 0 ∧ d = 0 ∧ e = 0 ∧ f = 0 ∧ y = (a + 96)) ∨ (b ≠ 0 ∧ c = 0 ∧ d = 0 ∧ e = 0 ∧ f = 0 ∧ y = (256 * (a + 96) + (b + 96))) ∨ (b ≠ 0 ∧ c ≠ 0 ∧ d = 0 ∧ e = 0 ∧ f = 0 ∧ y = (256 * (256 * (a + 96) + (b + 96)) + (c + 96))) ∨ (b ≠ 0 ∧ c ≠ 0 ∧ d ≠ 0 ∧ e = 0 ∧ f = 0 ∧ y = (256 * (256 * (256 * (a + 96) + (b + 96)) + (c + 96)) + (d + 96))) ∨ (b ≠ 0 ∧ c ≠ 0 ∧ d ≠ 0 ∧ e ≠ 0 ∧ f = 0 ∧ y = (256 * (256 * (256 * (256 * (a + 96) + (b + 96)) + (c + 96)) + (d + 96)) + (e + 96))) ∨ (b ≠ 0 ∧ c ≠ 0 ∧ d ≠ 0 ∧ e ≠ 0 ∧ f ≠ 0 ∧ y = (256 * (256 * (256 * (256 * (256 * (a + 96) + (b + 96)) + (c + 96)) + (d + 96)) + (e + 96)) + (f + 96))) := by
      dsimp only at hy
      by_cases hb : b = 0
      · have hc := z1 hb
        have hd := z2 hc
        have he := z3 hd
        have hf := z4 he
        refine Or.inl ⟨hb, hc, hd, he, hf, ?_⟩
        rw [hy]
        simp [hb, hc, hd, he, hf]
      by_cases hc : c = 0
      · have hd := z2 hc
        have he := z3 hd
        have hf := z4 he
        refine Or.inr (Or.inl ⟨hb, hc, hd, he, hf, ?_⟩)
        rw [hy]
        simp [hb, hc, hd, he, hf]
      by_cases hd : d = 0
      · have he := z3 hd
        have hf := z4 he
        refine Or.inr (Or.inr (Or.inl ⟨hb, hc, hd, he, hf, ?_⟩))
        rw [hy]
        simp [hb, hc, hd, he, hf]
      by_cases he : e = 0
      · have hf := z4 he
        refine Or.inr (Or.inr (Or.inr (Or.inl ⟨hb, hc, hd, he, hf, ?_⟩)))
        rw [hy]
        simp [hb, hc, hd, he, hf]
      by_cases hf : f = 0
      · refine Or.inr (Or.inr (Or.inr (Or.inr (Or.inl ⟨hb, hc, hd, he, hf, ?_⟩))))
        rw [hy]
        simp [hb, hc, hd, he, hf]
      refine Or.inr (Or.inr (Or.inr (Or.inr (Or.inr (⟨hb, hc, hd, he, hf, ?_⟩)))))
      rw [hy]
      simp [hb, hc, hd, he, hf]
    clear hy z1 z2 z3 z4 hr h1
    rw [pw n0 n6] at q1
    have nn : n = 0 ∨ n = 1 ∨ n = 2 ∨ n = 3 ∨ n = 4 ∨ n = 5 ∨ n = 6 := by omega
    have kk : k = 0 ∨ k = 1 ∨ k = 2 ∨ k = 3 ∨ k = 4 ∨ k = 5 := by omega
    have q2' : n = 0 ∨ (1 ≤ n ∧ 0 < (if n - 1 = 0 then y else if n - 1 = 1 then y / 256 else if n - 1 = 2 then y / 65536 else if n - 1 = 3 then y / 16777216 else if n - 1 = 4 then y / 4294967296 else if n - 1 = 5 then y / 1099511627776 else y / 281474976710656)) := by
      rcases q2 with g | g
      · exact Or.inl g
      · by_cases g0 : n = 0
        · exact Or.inl g0
        · rw [pw (by omega) (by omega)] at g
          exact Or.inr ⟨by omega, g⟩
    have hgoal : (if n ≤ k then (0 : Int) else y / 256 ^ (n - 1 - k).toNat % 256 - 96) = (if n ≤ k then (0 : Int) else (if n - 1 - k = 0 then y else if n - 1 - k = 1 then y / 256 else if n - 1 - k = 2 then y / 65536 else if n - 1 - k = 3 then y / 16777216 else if n - 1 - k = 4 then y / 4294967296 else if n - 1 - k = 5 then y / 1099511627776 else y / 281474976710656) % 256 - 96) := by
      by_cases g : n ≤ k
      · rw [if_pos g, if_pos g]
      · rw [if_neg g, if_neg g, pw (by omega) (by omega)]
    rw [hgoal]
    clear hgoal q2
    have hn : ∀ L : Int, 1 ≤ L → L ≤ 6 → (L = 1 → 1 ≤ y ∧ y < 256) → (L = 2 → 256 ≤ y ∧ y < 65536) → (L = 3 → 65536 ≤ y ∧ y < 16777216) → (L = 4 → 16777216 ≤ y ∧ y < 4294967296) → (L = 5 → 4294967296 ≤ y ∧ y < 1099511627776) → (L = 6 → 1099511627776 ≤ y ∧ y < 281474976710656) → n = L := by
      intro L l1 l6 r1 r2 r3 r4 r5 r6
      rcases nn with rfl | rfl | rfl | rfl | rfl | rfl | rfl <;> simp at q1 q2' <;> omega
    rcases hyc with ⟨g1, g2, g3, g4, g5, gy⟩ | ⟨g1, g2, g3, g4, g5, gy⟩ | ⟨g1, g2, g3, g4, g5, gy⟩ | ⟨g1, g2, g3, g4, g5, gy⟩ | ⟨g1, g2, g3, g4, g5, gy⟩ | ⟨g1, g2, g3, g4, g5, gy⟩
    · have e1 := hn 1 (by omega) (by omega) (by omega) (by omega) (by omega) (by omega) (by omega) (by omega)
      subst e1
      clear hn q1 q2' nn
      rcases kk with rfl | rfl | rfl | rfl | rfl | rfl
      · have hX : x / 33554432 % 32 = a := by
          have hX1 : x / 33554432 = (32 * 0 + a) := by omega
          rw [hX1]
          omega
        have hY : y % 256 = a + 96 := by
          have hY1 : y = (256 * 0 + (a + 96)) := by omega
          rw [hY1]
          omega
        clear hx gy
        simp
        omega
      · have hX : x / 1048576 % 32 = 0 := by
          have hX1 : x / 1048576 = (32 * (32 * 0 + a)) := by omega
          rw [hX1]
          omega
        clear hx gy
        simp
        omega
      · have hX : x / 32768 % 32 = 0 := by
          have hX1 : x / 32768 = (32 * (32 * (32 * 0 + a))) := by omega
          rw [hX1]
          omega
        clear hx gy
        simp
        omega
      · have hX : x / 1024 % 32 = 0 := by
          have hX1 : x / 1024 = (32 * (32 * (32 * (32 * 0 + a)))) := by omega
          rw [hX1]
          omega
        clear hx gy
        simp
        omega
      · have hX : x / 32 % 32 = 0 := by
          have hX1 : x / 32 = (32 * (32 * (32 * (32 * (32 * 0 + a))))) := by omega
          rw [hX1]
          omega
        clear hx gy
        simp
        omega
      · have hX : x % 32 = 0 := by
          have hX1 : x = (32 * (32 * (32 * (32 * (32 * (32 * 0 + a)))))) := by omega
          rw [hX1]
          omega
        clear hx gy
        simp
        omega
    · have e1 := hn 2 (by omega) (by omega) (by omega) (by omega) (by omega) (by omega) (by omega) (by omega)
      subst e1
      clear hn q1 q2' nn
      rcases kk with rfl | rfl | rfl | rfl | rfl | rfl
      · have hX : x / 33554432 % 32 = a := by
          have hX1 : x / 33554432 = (32 * 0 + a) := by omega
          rw [hX1]
          omega
        have hY : y / 256 % 256 = a + 96 := by
          have hY1 : y / 256 = (256 * 0 + (a + 96)) := by omega
          rw [hY1]
          omega
        clear hx gy
        simp
        omega
      · have hX : x / 1048576 % 32 = b := by
          have hX1 : x / 1048576 = (32 * (32 * 0 + a) + b) := by omega
          rw [hX1]
          omega
        have hY : y % 256 = b + 96 := by
          have hY1 : y = (256 * (256 * 0 + (a + 96)) + (b + 96)) := by omega
          rw [hY1]
          omega
        clear hx gy
        simp
        omega
      · have hX : x / 32768 % 32 = 0 := by
          have hX1 : x / 32768 = (32 * (32 * (32 * 0 + a) + b)) := by omega
          rw [hX1]
          omega
        clear hx gy
        simp
        omega
      · have hX : x / 1024 % 32 = 0 := by
          have hX1 : x / 1024 = (32 * (32 * (32 * (32 * 0 + a) + b))) := by omega
          rw [hX1]
          omega
        clear hx gy
        simp
        omega
      · have hX : x / 32 % 32 = 0 := by
          have hX1 : x / 32 = (32 * (32 * (32 * (32 * (32 * 0 + a) + b)))) := by omega
          rw [hX1]
          omega
        clear hx gy
        simp
        omega
      · have hX : x % 32 = 0 := by
          have hX1 : x = (32 * (32 * (32 * (32 * (32 * (32 * 0 + a) + b))))) := by omega
          rw [hX1]
          omega
        clear hx gy
        simp
        omega
    · have e1 := hn 3 (by omega) (by omega) (by omega) (by omega) (by omega) (by omega) (by omega) (by omega)
      subst e1
      clear hn q1 q2' nn
      rcases kk with rfl | rfl | rfl | rfl | rfl | rfl
      · have hX : x / 33554432 % 32 = a := by
          have hX1 : x / 33554432 = (32 * 0 + a) := by omega
          rw [hX1]
          omega
        have hY : y / 65536 % 256 = a + 96 := by
          have hY1 : y / 65536 = (256 * 0 + (a + 96)) := by omega
          rw [hY1]
          omega
        clear hx gy
        simp
        omega
      · have hX : x / 1048576 % 32 = b := by
          have hX1 : x / 1048576 = (32 * (32 * 0 + a) + b) := by omega
          rw [hX1]
          omega
        have hY : y / 256 % 256 = b + 96 := by
          have hY1 : y / 256 = (256 * (256 * 0 + (a + 96)) + (b + 96)) := by omega
          rw [hY1]
          omega
        clear hx gy
        simp
        omega
      · have hX : x / 32768 % 32 = c := by
          have hX1 : x / 32768 = (32 * (32 * (32 * 0 + a) + b) + c) := by omega
          rw [hX1]
          omega
        have hY : y % 256 = c + 96 := by
          have hY1 : y = (256 * (256 * (256 * 0 + (a + 96)) + (b + 96)) + (c + 96)) := by omega
          rw [hY1]
          omega
        clear hx gy
        simp
        omega
      · have hX : x / 1024 % 32 = 0 := by
          have hX1 : x / 1024 = (32 * (32 * (32 * (32 * 0 + a) + b) + c)) := by omega
          rw [hX1]
          omega
        clear hx gy
        simp
        omega
      · have hX : x / 32 % 32 = 0 := by
          have hX1 : x / 32 = (32 * (32 * (32 * (32 * (32 * 0 + a) + b) + c))) := by omega
          rw [hX1]
          omega
        clear hx gy
        simp
        omega
      · have hX : x % 32 = 0 := by
          have hX1 : x = (32 * (32 * (32 * (32 * (32 * (32 * 0 + a) + b) + c)))) := by omega
          rw [hX1]
          omega
        clear hx gy
        simp
        omega
    · have e1 := hn 4 (by omega) (by omega) (by omega) (by omega) (by omega) (by omega) (by omega) (by omega)
      subst e1
      clear hn q1 q2' nn
      rcases kk with rfl | rfl | rfl | rfl | rfl | rfl
      · have hX : x / 33554432 % 32 = a := by
          have hX1 : x / 33554432 = (32 * 0 + a) := by omega
          rw [hX1]
          omega
        have hY : y / 16777216 % 256 = a + 96 := by
          have hY1 : y / 16777216 = (256 * 0 + (a + 96)) := by omega
          rw [hY1]
          omega
        clear hx gy
        simp
        omega
      · have hX : x / 1048576 % 32 = b := by
          have hX1 : x / 1048576 = (32 * (32 * 0 + a) + b) := by omega
          rw [hX1]
          omega
        have hY : y / 65536 % 256 = b + 96 := by
          have hY1 : y / 65536 = (256 * (256 * 0 + (a + 96)) + (b + 96)) := by omega
          rw [hY1]
          omega
        clear hx gy
        simp
        omega
      · have hX : x / 32768 % 32 = c := by
          have hX1 : x / 32768 = (32 * (32 * (32 * 0 + a) + b) + c) := by omega
          rw [hX1]
          omega
        have hY : y / 256 % 256 = c + 96 := by
          have hY1 : y / 256 = (256 * (256 * (256 * 0 + (a + 96)) + (b + 96)) + (c + 96)) := by omega
          rw [hY1]
          omega
        clear hx gy
        simp
        omega
      · have hX : x / 1024 % 32 = d := by
          have hX1 : x / 1024 = (32 * (32 * (32 * (32 * 0 + a) + b) + c) + d) := by omega
          rw [hX1]
          omega
        have hY : y % 256 = d + 96 := by
          have hY1 : y = (256 * (256 * (256 * (256 * 0 + (a + 96)) + (b + 96)) + (c + 96)) + (d + 96)) := by omega
          rw [hY1]
          omega
        clear hx gy
        simp
        omega
      · have hX : x / 32 % 32 = 0 := by
          have hX1 : x / 32 = (32 * (32 * (32 * (32 * (32 * 0 + a) + b) + c) + d)) := by omega
          rw [hX1]
          omega
        clear hx gy
        simp
        omega
      · have hX : x % 32 = 0 := by
          have hX1 : x = (32 * (32 * (32 * (32 * (32 * (32 * 0 + a) + b) + c) + d))) := by omega
          rw [hX1]
          omega
        clear hx gy
        simp
        omega
    · have e1 := hn 5 (by omega) (by omega) (by omega) (by omega) (by omega) (by omega) (by omega) (by omega)
      subst e1
      clear hn q1 q2' nn
      rcases kk with rfl | rfl | rfl | rfl | rfl | rfl
      · have hX : x / 33554432 % 32 = a := by
          have hX1 : x / 33554432 = (32 * 0 + a) := by omega
          rw [hX1]
          omega
        have hY : y / 4294967296 % 256 = a + 96 := by
          have hY1 : y / 4294967296 = (256 * 0 + (a + 96)) := by omega
          rw [hY1]
          omega
        clear hx gy
        simp
        omega
      · have hX : x / 1048576 % 32 = b := by
          have hX1 : x / 1048576 = (32 * (32 * 0 + a) + b) := by omega
          rw [hX1]
          omega
        have hY : y / 16777216 % 256 = b + 96 := by
          have hY1 : y / 16777216 = (256 * (256 * 0 + (a + 96)) + (b + 96)) := by omega
          rw [hY1]
          omega
        clear hx gy
        simp
        omega
      · have hX : x / 32768 % 32 = c := by
          have hX1 : x / 32768 = (32 * (32 * (32 * 0 + a) + b) + c) := by omega
          rw [hX1]
          omega
        have hY : y / 65536 % 256 = c + 96 := by
          have hY1 : y / 65536 = (256 * (256 * (256 * 0 + (a + 96)) + (b + 96)) + (c + 96)) := by omega
          rw [hY1]
          omega
        clear hx gy
        simp
        omega
      · have hX : x / 1024 % 32 = d := by
          have hX1 : x / 1024 = (32 * (32 * (32 * (32 * 0 + a) + b) + c) + d) := by omega
          rw [hX1]
          omega
        have hY : y / 256 % 256 = d + 96 := by
          have hY1 : y / 256 = (256 * (256 * (256 * (256 * 0 + (a + 96)) + (b + 96)) + (c + 96)) + (d + 96)) := by omega
          rw [hY1]
          omega
        clear hx gy
        simp
        omega
      · have hX : x / 32 % 32 = e := by
          have hX1 : x / 32 = (32 * (32 * (32 * (32 * (32 * 0 + a) + b) + c) + d) + e) := by omega
          rw [hX1]
          omega
        have hY : y % 256 = e + 96 := by
          have hY1 : y = (256 * (256 * (256 * (256 * (256 * 0 + (a + 96)) + (b + 96)) + (c + 96)) + (d + 96)) + (e + 96)) := by omega
          rw [hY1]
          omega
        clear hx gy
        simp
        omega
      · have hX : x % 32 = 0 := by
          have hX1 : x = (32 * (32 * (32 * (32 * (32 * (32 * 0 + a) + b) + c) + d) + e)) := by omega
          rw [hX1]
          omega
        clear hx gy
        simp
        omega
    · have e1 := hn 6 (by omega) (by omega) (by omega) (by omega) (by omega) (by omega) (by omega) (by omega)
      subst e1
      clear hn q1 q2' nn
      rcases kk with rfl | rfl | rfl | rfl | rfl | rfl
      · have hX : x / 33554432 % 32 = a := by
          have hX1 : x / 33554432 = (32 * 0 + a) := by omega
          rw [hX1]
          omega
        have hY : y / 1099511627776 % 256 = a + 96 := by
          have hY1 : y / 1099511627776 = (256 * 0 + (a + 96)) := by omega
          rw [hY1]
          omega
        clear hx gy
        simp
        omega
      · have hX : x / 1048576 % 32 = b := by
          have hX1 : x / 1048576 = (32 * (32 * 0 + a) + b) := by omega
          rw [hX1]
          omega
        have hY : y / 4294967296 % 256 = b + 96 := by
          have hY1 : y / 4294967296 = (256 * (256 * 0 + (a + 96)) + (b + 96)) := by omega
          rw [hY1]
          omega
        clear hx gy
        simp
        omega
      · have hX : x / 32768 % 32 = c := by
          have hX1 : x / 32768 = (32 * (32 * (32 * 0 + a) + b) + c) := by omega
          rw [hX1]
          omega
        have hY : y / 16777216 % 256 = c + 96 := by
          have hY1 : y / 16777216 = (256 * (256 * (256 * 0 + (a + 96)) + (b + 96)) + (c + 96)) := by omega
          rw [hY1]
          omega
        clear hx gy
        simp
        omega
      · have hX : x / 1024 % 32 = d := by
          have hX1 : x / 1024 = (32 * (32 * (32 * (32 * 0 + a) + b) + c) + d) := by omega
          rw [hX1]
          omega
        have hY : y / 65536 % 256 = d + 96 := by
          have hY1 : y / 65536 = (256 * (256 * (256 * (256 * 0 + (a + 96)) + (b + 96)) + (c + 96)) + (d + 96)) := by omega
          rw [hY1]
          omega
        clear hx gy
        simp
        omega
      · have hX : x / 32 % 32 = e := by
          have hX1 : x / 32 = (32 * (32 * (32 * (32 * (32 * 0 + a) + b) + c) + d) + e) := by omega
          rw [hX1]
          omega
        have hY : y / 256 % 256 = e + 96 := by
          have hY1 : y / 256 = (256 * (256 * (256 * (256 * (256 * 0 + (a + 96)) + (b + 96)) + (c + 96)) + (d + 96)) + (e + 96)) := by omega
          rw [hY1]
          omega
        clear hx gy
        simp
        omega
      · have hX : x % 32 = f := by
          have hX1 : x = (32 * (32 * (32 * (32 * (32 * (32 * 0 + a) + b) + c) + d) + e) + f) := by omega
          rw [hX1]
          omega
        have hY : y % 256 = f + 96 := by
          have hY1 : y = (256 * (256 * (256 * (256 * (256 * (256 * 0 + (a + 96)) + (b + 96)) + (c + 96)) + (d + 96)) + (e + 96)) + (f + 96)) := by omega
          rw [hY1]
          omega
        clear hx gy
        simp
        omega
theorem ST.nmR {t : Nat} {M : cM} {w : Int} (h : ST t M) (h0 : 0 ≤ w) (hw : w < M 65 (M 63 14).toNat) : N58 (M (t + 1) w.toNat) (M 83 (8 * M 63 14 + w).toNat) ∧ M (t + 1) w.toNat ≠ 1 := by
  rw [h.1.1] at hw
  have h1 := (h.1.2.2.2.2.1 w.toNat (by omega)).1
  have h2 := h.2.2.2.2.2.2.1 w.toNat (by omega)
  rw [show ((w.toNat : Nat) : Int) = w by omega] at h1
  exact ⟨h1, h2⟩
theorem ST.nmP {t : Nat} {M : cM} {w : Int} (h : ST t M) (h0 : 0 ≤ w) (hw : w < M 69 (M 63 14).toNat) : N58 (M (t + 5) w.toNat) (M 84 (8 * M 63 14 + w).toNat) ∧ M (t + 5) w.toNat ≠ 1 := by
  rw [h.1.2.1] at hw
  have h1 := (h.1.2.2.2.2.2.1 w.toNat (by omega)).1
  have h2 := h.2.2.2.2.2.2.2 w.toNat (by omega)
  rw [show ((w.toNat : Nat) : Int) = w by omega] at h1
  exact ⟨h1, h2⟩
def LtC (t : Nat) (M : cM) (kd w k v : Int) : Prop := v = (if (0 ≤ k ∧ k ≤ 5) ∧ kd = 0 ∧ 0 ≤ w ∧ w < M t 0 then tbA (tbS (M (t + 1) w.toNat) (25 - 5 * k)) 31 else if (0 ≤ k ∧ k ≤ 5) ∧ kd = 1 ∧ 0 ≤ w ∧ w < M t 1 then tbA (tbS (M (t + 5) w.toNat) (25 - 5 * k)) 31 else -1)
def LtR (M : cM) (kd w k v : Int) : Prop := (¬ ((0 ≤ k ∧ k ≤ 5) ∧ ((kd = 0 ∧ 0 ≤ w ∧ w < M 65 (M 63 14).toNat) ∨ (kd = 1 ∧ 0 ≤ w ∧ w < M 69 (M 63 14).toNat))) ∧ v = -1) ∨ ((0 ≤ k ∧ k ≤ 5) ∧ ((kd = 0 ∧ (0 ≤ w ∧ w < M 65 (M 63 14).toNat) ∧ l8v (M 83 (8 * M 63 14 + w).toNat) k v) ∨ (kd = 1 ∧ (0 ≤ w ∧ w < M 69 (M 63 14).toNat) ∧ l8v (M 84 (8 * M 63 14 + w).toNat) k v)))
theorem letter_eq {t : Nat} {M : cM} {kd w k v v2 : Int} (h : ST t M) (hv : LtC t M kd w k v) (h2 : LtR M kd w k v2) : v = v2 := by
  have e0 : M 65 (M 63 14).toNat = M t 0 := h.1.1
  have e1 : M 69 (M 63 14).toNat = M t 1 := h.1.2.1
  unfold LtC at hv
  rcases h2 with ⟨g, g2⟩ | ⟨gk, ⟨g1, g2, g3⟩ | ⟨g1, g2, g3⟩⟩
  · rw [e0, e1] at g
    rw [if_neg (fun z => g ⟨z.1, Or.inl z.2⟩), if_neg (fun z => g ⟨z.1, Or.inr z.2⟩)] at hv
    omega
  · have hn := h.nmR g2.1 g2.2
    rw [e0] at g2
    rw [if_pos ⟨gk, g1, g2⟩] at hv
    rw [hv]
    exact l58 hn.1 hn.2 gk g3
  · have hn := h.nmP g2.1 g2.2
    rw [e1] at g2
    rw [if_neg (fun z => by have := z.2.1; omega), if_pos ⟨gk, g1, g2⟩] at hv
    rw [hv]
    exact l58 hn.1 hn.2 gk g3
theorem f_166 {xs : Nat → Int} {Ln d : Nat} {T : List cK} {M : cM} (hT : TT T) (hI : Rng M) {name k : Int} (p0 : 0 ≤ k ∧ k ≤ 5) : cC k_P xs Ln (d + 0) 166 [(0, name), (0, k)] (T, M) (qF T M 0 (fun v => v = tbA (tbS name (25 - 5 * k)) 31)) := by
  show cP k_P xs Ln (d + 0) 166 0 [(0, (0, name)), (1, (0, k))] [] (T, M) _
  refine s_iload_n kx_166_0 rfl ?_
  refine s_bipush (v := 25) kx_166_1 (by decide) ?_
  refine s_iconst (v := 5) kx_166_3 (by decide) ?_
  refine s_iload_n kx_166_4 rfl ?_
  refine r_mul kx_166_5 ⟨by omega, by omega⟩ ?_
  refine r_sub kx_166_6 ⟨by omega, by omega⟩ ?_
  refine s_ishr (z := (tbS name (25 - (5 * k)))) kx_166_7 rfl ?_
  refine s_bipush (v := 31) kx_166_8 (by decide) ?_
  refine s_iand (z := (tbA (tbS name (25 - (5 * k))) 31)) kx_166_10 rfl ?_
  exact s_iret kx_166_11 (Or.inl kq_166) ⟨_, rfl, rfl, rfl⟩
theorem f_141 {xs : Nat → Int} {Ln d : Nat} {T : List cK} {M : cM} (hT : TT T) (hI : Rng M) {t : Nat} (ht : t = 8 ∨ t = 25) (h70 : M 7 0 = ((t : Nat) : Int)) {kd w k : Int} : cC k_P xs Ln (d + 1) 141 [rf 0, (0, kd), (0, w), (0, k)] (T, M) (qF T M 0 (fun v => LtC t M kd w k v)) := by
  show cP k_P xs Ln (d + 1) 141 0 [(0, rf 0), (1, (0, kd)), (2, (0, w)), (3, (0, k))] [] (T, M) _
  refine s_iload_n kx_141_0 rfl ?_
  refine s_if_lt (t := 9) kx_141_1 (by decide) (fun hc1 => ?_) (fun hc1 => ?_)
  · refine s_iconst (v := (-1)) kx_141_9 (by decide) ?_
    exact s_iret kx_141_10 (Or.inl kq_141) ⟨_, rfl, rfl, (by unfold LtC; rw [if_neg (by omega), if_neg (by omega)])⟩
  · refine s_iload_n kx_141_4 rfl ?_
    refine s_iconst (v := 5) kx_141_5 (by decide) ?_
    refine s_icmp_le (t := 11) kx_141_6 (by decide) (fun hc2 => ?_) (fun hc2 => ?_)
    · refine s_iload_n kx_141_11 rfl ?_
      refine s_if_ne (t := 46) kx_141_12 (by decide) (fun hc3 => ?_) (fun hc3 => ?_)
      · refine s_iload_n kx_141_46 rfl ?_
        refine s_iconst (v := 1) kx_141_47 (by decide) ?_
        refine s_icmp_ne (t := 82) kx_141_48 (by decide) (fun hc4 => ?_) (fun hc4 => ?_)
        · refine s_iconst (v := (-1)) kx_141_82 (by decide) ?_
          exact s_iret kx_141_83 (Or.inl kq_141) ⟨_, rfl, rfl, (by unfold LtC; rw [if_neg (by omega), if_neg (by omega)])⟩
        · refine s_aload_n kx_141_51 rfl ?_
          refine r_getR (k := 0) (f := 2) (k2 := 7) kx_141_52 kp_141_26 (tk_0 hT) kf_11_2 (by decide) (rq_0_2 hI) ?_
          refine r_getR (k := 7) (f := 0) (k2 := t) kx_141_55 kp_141_120 (tk_7 hT) kf_5_0 (by decide) h70 ?_
          refine s_iload_n kx_141_58 rfl ?_
          refine s_callV2 (k := t) (s1 := 2) (s2 := 0) (as := [(0, w)]) (rest := []) kx_141_59 kp_141_164 (Or.inl rfl) rfl (tkt_0 hT ht) ki_107 kcl_107 rfl rfl (by decide) (m_107 (d := d) (person := w) hT hI ht) (kF (fun v5 v5p => ?_))
          refine s_if_eq (t := 82) kx_141_62 (by decide) (fun hc6 => ?_) (fun hc6 => ?_)
          · replace v5p := v5p.resolve_left (by omega)
            refine s_iconst (v := (-1)) kx_141_82 (by decide) ?_
            exact s_iret kx_141_83 (Or.inl kq_141) ⟨_, rfl, rfl, (by unfold LtC; rw [if_neg (by omega), if_neg (by omega)])⟩
          · replace v5p := v5p.resolve_right (by omega)
            refine s_aload_n kx_141_65 rfl ?_
            refine r_getR (k := 0) (f := 2) (k2 := 7) kx_141_66 kp_141_26 (tk_0 hT) kf_11_2 (by decide) (rq_0_2 hI) ?_
            refine r_getR (k := 7) (f := 0) (k2 := t) kx_141_69 kp_141_120 (tk_7 hT) kf_5_0 (by decide) h70 ?_
            refine r_getR (k := t) (f := 8) (k2 := (t + 5)) kx_141_72 kp_141_167 (tkt_0 hT ht) kf_9_8 (by decide) (rqt_8 hI ht) ?_
            refine s_iload_n kx_141_75 rfl ?_
            refine r_aldU (k := (t + 5)) kx_141_76 (tkt_5 hT ht) ⟨by omega, by omega⟩ (fun v7 v7e => ?_)
            refine s_iload_n kx_141_77 rfl ?_
            refine s_callS2 (s1 := 2) (s2 := 0) (as := [(0, k), (0, v7)]) (rest := []) kx_141_78 kp_141_160 rfl kcl_166 rfl rfl (by decide) (f_166 (d := d) (name := v7) (k := k) hT hI (by omega)) (kF (fun v8 v8p => ?_))
            exact s_iret kx_141_81 (Or.inl kq_141) ⟨_, rfl, rfl, (by unfold LtC; rw [if_neg (by omega), if_pos (by omega), v7e]; exact v8p)⟩
      · refine s_aload_n kx_141_15 rfl ?_
        refine r_getR (k := 0) (f := 2) (k2 := 7) kx_141_16 kp_141_26 (tk_0 hT) kf_11_2 (by decide) (rq_0_2 hI) ?_
        refine r_getR (k := 7) (f := 0) (k2 := t) kx_141_19 kp_141_120 (tk_7 hT) kf_5_0 (by decide) h70 ?_
        refine s_iload_n kx_141_22 rfl ?_
        refine s_callV2 (k := t) (s1 := 2) (s2 := 0) (as := [(0, w)]) (rest := []) kx_141_23 kp_141_153 (Or.inl rfl) rfl (tkt_0 hT ht) ki_106 kcl_106 rfl rfl (by decide) (m_106 (d := d) (room := w) hT hI ht) (kF (fun v9 v9p => ?_))
        refine s_if_eq (t := 46) kx_141_26 (by decide) (fun hc10 => ?_) (fun hc10 => ?_)
        · replace v9p := v9p.resolve_left (by omega)
          refine s_iload_n kx_141_46 rfl ?_
          refine s_iconst (v := 1) kx_141_47 (by decide) ?_
          refine s_icmp_ne (t := 82) kx_141_48 (by decide) (fun hc11 => ?_) (fun hc11 => absurd hc11 (by omega))
          refine s_iconst (v := (-1)) kx_141_82 (by decide) ?_
          exact s_iret kx_141_83 (Or.inl kq_141) ⟨_, rfl, rfl, (by unfold LtC; rw [if_neg (by omega), if_neg (by omega)])⟩
        · replace v9p := v9p.resolve_right (by omega)
          refine s_aload_n kx_141_29 rfl ?_
          refine r_getR (k := 0) (f := 2) (k2 := 7) kx_141_30 kp_141_26 (tk_0 hT) kf_11_2 (by decide) (rq_0_2 hI) ?_
          refine r_getR (k := 7) (f := 0) (k2 := t) kx_141_33 kp_141_120 (tk_7 hT) kf_5_0 (by decide) h70 ?_
          refine r_getR (k := t) (f := 4) (k2 := (t + 1)) kx_141_36 kp_141_157 (tkt_0 hT ht) kf_9_4 (by decide) (rqt_4 hI ht) ?_
          refine s_iload_n kx_141_39 rfl ?_
          refine r_aldU (k := (t + 1)) kx_141_40 (tkt_1 hT ht) ⟨by omega, by omega⟩ (fun v12 v12e => ?_)
          refine s_iload_n kx_141_41 rfl ?_
          refine s_callS2 (s1 := 2) (s2 := 0) (as := [(0, k), (0, v12)]) (rest := []) kx_141_42 kp_141_160 rfl kcl_166 rfl rfl (by decide) (f_166 (d := d) (name := v12) (k := k) hT hI (by omega)) (kF (fun v13 v13p => ?_))
          exact s_iret kx_141_45 (Or.inl kq_141) ⟨_, rfl, rfl, (by unfold LtC; rw [if_pos (by omega), v12e]; exact v13p)⟩
    · refine s_iconst (v := (-1)) kx_141_9 (by decide) ?_
      exact s_iret kx_141_10 (Or.inl kq_141) ⟨_, rfl, rfl, (by unfold LtC; rw [if_neg (by omega), if_neg (by omega)])⟩
theorem f_247 {xs : Nat → Int} {Ln d : Nat} {T : List cK} {M : cM} (hT : TT T) (hI : Rng M) {kd w k : Int} (hA : kd = 0 → 0 ≤ w → w < M 65 (M 63 14).toNat → 1 ≤ M 83 (8 * M 63 14 + w).toNat ∧ M 83 (8 * M 63 14 + w).toNat < 281474976710656) (hB : kd = 1 → 0 ≤ w → w < M 69 (M 63 14).toNat → 1 ≤ M 84 (8 * M 63 14 + w).toNat ∧ M 84 (8 * M 63 14 + w).toNat < 281474976710656) : cC k_P xs Ln (d + 1) 247 [rf 63, (0, kd), (0, w), (0, k)] (T, M) (qF T M 0 (fun v => LtR M kd w k v)) := by
  show cP k_P xs Ln (d + 1) 247 0 [(0, rf 63), (1, (0, kd)), (2, (0, w)), (3, (0, k))] [] (T, M) _
  refine s_iload_n kx_247_0 rfl ?_
  refine s_iconst (v := 0) kx_247_1 (by decide) ?_
  refine s_iconst (v := 1) kx_247_2 (by decide) ?_
  refine s_callS2 (s1 := 3) (s2 := 0) (as := [(0, 1), (0, 0), (0, kd)]) (rest := []) kx_247_3 kp_247_345 rfl kcl_172 rfl rfl (by decide) (m_172 (d := d) (v_ := kd) (least := 0) (most := 1) hT hI) (kF (fun v1 v1p => ?_))
  refine s_if_eq (t := 37) kx_247_6 (by decide) (fun hc2 => ?_) (fun hc2 => ?_)
  · replace v1p := v1p.resolve_left (by omega)
    refine s_iconst (v := (-1)) kx_247_37 (by decide) ?_
    exact s_iret kx_247_38 (Or.inl kq_247) ⟨_, rfl, rfl, (Or.inl ⟨by omega, by omega⟩)⟩
  · replace v1p := v1p.resolve_right (by omega)
    refine s_iload_n kx_247_9 rfl ?_
    refine s_iconst (v := 0) kx_247_10 (by decide) ?_
    refine s_aload_n kx_247_11 rfl ?_
    refine s_aload_n kx_247_12 rfl ?_
    refine r_getI (k := 63) (f := 14) kx_247_13 kp_247_54 (tk_63 hT) kf_12_14 (fun _ => rfl) (rg_63_14 hI) (fun v3 v3e v3a v3b => ?_)
    refine s_iload_n kx_247_16 rfl ?_
    refine s_callV2 (k := 63) (s1 := 3) (s2 := 2) (as := [(0, kd), (0, v3)]) (rest := [(0, 0), (0, w)]) kx_247_17 kp_247_337 (Or.inl rfl) rfl (tk_63 hT) ki_185 kcl_185 rfl rfl (by decide) (m_185 (d := d) (b := v3) (kind := kd) hT hI (by omega)) (kF (fun v4 v4p => ?_))
    have hmo := v4p
    rw [← v3e] at hmo
    refine s_iconst (v := 1) kx_247_20 (by decide) ?_
    refine r_sub kx_247_21 ⟨by omega, by omega⟩ ?_
    refine s_callS2 (s1 := 3) (s2 := 0) (as := [(0, (v4 - 1)), (0, 0), (0, w)]) (rest := []) kx_247_22 kp_247_345 rfl kcl_172 rfl rfl (by decide) (m_172 (d := d) (v_ := w) (least := 0) (most := (v4 - 1)) hT hI) (kF (fun v5 v5p => ?_))
    refine s_if_eq (t := 37) kx_247_25 (by decide) (fun hc6 => ?_) (fun hc6 => ?_)
    · replace v5p := v5p.resolve_left (by omega)
      refine s_iconst (v := (-1)) kx_247_37 (by decide) ?_
      exact s_iret kx_247_38 (Or.inl kq_247) ⟨_, rfl, rfl, (Or.inl ⟨by omega, by omega⟩)⟩
    · replace v5p := v5p.resolve_right (by omega)
      refine s_iload_n kx_247_28 rfl ?_
      refine s_iconst (v := 0) kx_247_29 (by decide) ?_
      refine s_iconst (v := 5) kx_247_30 (by decide) ?_
      refine s_callS2 (s1 := 3) (s2 := 0) (as := [(0, 5), (0, 0), (0, k)]) (rest := []) kx_247_31 kp_247_345 rfl kcl_172 rfl rfl (by decide) (m_172 (d := d) (v_ := k) (least := 0) (most := 5) hT hI) (kF (fun v7 v7p => ?_))
      refine s_if_ne (t := 39) kx_247_34 (by decide) (fun hc8 => ?_) (fun hc8 => ?_)
      · replace v7p := v7p.resolve_right (by omega)
        refine s_aload_n kx_247_39 rfl ?_
        refine s_aload_n kx_247_40 rfl ?_
        refine r_getK (k := 63) (f := 14) kx_247_41 kp_247_54 (tk_63 hT) kf_12_14 (fun _ => rfl) v3e ?_
        refine s_iload_n kx_247_44 rfl ?_
        refine s_iload_n kx_247_45 rfl ?_
        refine s_callV2 (k := 63) (s1 := 4) (s2 := 0) (as := [(0, w), (0, kd), (0, v3)]) (rest := []) kx_247_46 kp_247_341 (Or.inl rfl) rfl (tk_63 hT) ki_186 kcl_186 rfl rfl (by decide) (f_186 (d := d) (b := v3) (kind := kd) (k := w) hT hI (by omega) (by omega)) (kF (fun v9 v9p => ?_))
        have hlw : 1 ≤ v9 ∧ v9 < 281474976710656 := (show kd = 0 ∨ kd = 1 by omega).elim (fun g => by rw [v9p, if_pos g, ← v3e]; exact hA g (by omega) (by omega)) (fun g => by rw [v9p, if_neg (by omega), ← v3e]; exact hB g (by omega) (by omega))
        have hlp := v9p
        refine s_lstore kx_247_49 km_247_5 rfl ?_
        refine s_iconst (v := 0) kx_247_51 (by decide) ?_
        refine s_istore kx_247_52 km_247_6 rfl ?_
        refine s_lload kx_247_54 rfl ?_
        refine s_lstore kx_247_56 km_247_8 rfl ?_
        have key12 : ∀ n13 : Nat, ∀ (x6_10 x7_11 : Int), (0 ≤ x6_10) → (x6_10 ≤ 6) → (0 ≤ x7_11) → (x7_11 ≤ 281474976710655) → (x7_11 = v9 / 256 ^ (x6_10).toNat) → (x6_10 = 0 ∨ 0 < v9 / 256 ^ (x6_10 - 1).toNat) → (x7_11).toNat < n13 → cP k_P xs Ln (d + 1) 247 58 [(3, (0, k)), (4, (1, v9)), (6, (0, x6_10)), (7, (1, x7_11))] [] (T, M) (qF T M 0 (fun v => LtR M kd w k v)) := by
          intro n13
          induction n13 with
          | zero => intro x6_10 x7_11 i14 i15 i16 i17 i18 i19 hm20; exact absurd hm20 (Nat.not_lt_zero _)
          | succ n13 ih21 =>
            intro x6_10 x7_11 i14 i15 i16 i17 i18 i19 hm20
            refine s_lload kx_247_58 rfl ?_
            refine s_lconst (v := 0) kx_247_60 (by decide) ?_
            refine r_lcmpE kx_247_61 ⟨by omega, by omega⟩ ⟨by omega, by omega⟩ (fun v22 v22p => ?_)
            refine s_if_le (t := 78) kx_247_62 (by decide) (fun hc23 => ?_) (fun hc23 => ?_)
            · refine s_iload_n kx_247_78 rfl ?_
              refine s_iload kx_247_79 rfl ?_
              refine s_icmp_lt (t := 88) kx_247_81 (by decide) (fun hc24 => ?_) (fun hc24 => ?_)
              · refine s_lload kx_247_88 rfl ?_
                refine s_bipush (v := 8) kx_247_90 (by decide) ?_
                refine s_iload kx_247_92 rfl ?_
                refine s_iconst (v := 1) kx_247_94 (by decide) ?_
                refine r_sub kx_247_95 ⟨by omega, by omega⟩ ?_
                refine s_iload_n kx_247_96 rfl ?_
                refine r_sub kx_247_97 ⟨by omega, by omega⟩ ?_
                refine r_mul kx_247_98 ⟨by omega, by omega⟩ ?_
                refine s_lshr (z := (lsh v9 (8 * ((x6_10 - 1) - k)))) kx_247_99 rfl ?_
                refine s_ldc2_w kx_247_100 kp_247_506 ?_
                refine s_land (z := (lan (lsh v9 (8 * ((x6_10 - 1) - k))) 255)) kx_247_103 rfl ?_
                have hlan := lan_r ((lsh v9 (8 * ((x6_10 - 1) - k))))
                refine r_l2iE kx_247_104 (by omega) (by omega) ?_
                refine s_bipush (v := 97) kx_247_105 (by decide) ?_
                refine r_sub kx_247_107 ⟨by omega, by omega⟩ ?_
                refine s_iconst (v := 1) kx_247_108 (by decide) ?_
                refine r_add kx_247_109 ⟨by omega, by omega⟩ ?_
                exact s_iret kx_247_110 (Or.inl kq_247) ⟨_, rfl, rfl, (Or.inr ⟨⟨by omega, by omega⟩, (show kd = 0 ∨ kd = 1 by omega).elim (fun g => Or.inl ⟨g, ⟨by omega, by omega⟩, (by have hq : l8v v9 k (((lan (lsh v9 (8 * ((x6_10 - 1) - k))) 255) - 97) + 1) := ⟨x6_10, by omega, by omega, by rw [← i18]; omega, i19, (Or.inr ⟨by omega, rfl⟩)⟩; rw [show M 83 (8 * M 63 14 + w).toNat = v9 by rw [hlp, if_pos g, v3e]]; exact hq)⟩) (fun g => Or.inr ⟨g, ⟨by omega, by omega⟩, (by have hq : l8v v9 k (((lan (lsh v9 (8 * ((x6_10 - 1) - k))) 255) - 97) + 1) := ⟨x6_10, by omega, by omega, by rw [← i18]; omega, i19, (Or.inr ⟨by omega, rfl⟩)⟩; rw [show M 84 (8 * M 63 14 + w).toNat = v9 by rw [hlp, if_neg (by omega), v3e]]; exact hq)⟩)⟩)⟩
              · refine s_iconst (v := 0) kx_247_84 (by decide) ?_
                refine s_goto (t := 110) kx_247_85 (by decide) ?_
                exact s_iret kx_247_110 (Or.inl kq_247) ⟨_, rfl, rfl, (Or.inr ⟨⟨by omega, by omega⟩, (show kd = 0 ∨ kd = 1 by omega).elim (fun g => Or.inl ⟨g, ⟨by omega, by omega⟩, (by have hq : l8v v9 k 0 := ⟨x6_10, by omega, by omega, by rw [← i18]; omega, i19, (Or.inl ⟨by omega, rfl⟩)⟩; rw [show M 83 (8 * M 63 14 + w).toNat = v9 by rw [hlp, if_pos g, v3e]]; exact hq)⟩) (fun g => Or.inr ⟨g, ⟨by omega, by omega⟩, (by have hq : l8v v9 k 0 := ⟨x6_10, by omega, by omega, by rw [← i18]; omega, i19, (Or.inl ⟨by omega, rfl⟩)⟩; rw [show M 84 (8 * M 63 14 + w).toNat = v9 by rw [hlp, if_neg (by omega), v3e]]; exact hq)⟩)⟩)⟩
            · have hn5 := qB_hi i18 (by omega) (by omega) (by omega) (by omega) (by omega)
              refine r_iinc kx_247_65 rfl km_247_6 (by decide) ⟨by omega, by omega⟩ rfl ?_
              refine s_lload kx_247_68 rfl ?_
              refine s_bipush (v := 8) kx_247_70 (by decide) ?_
              refine s_lshr (z := (x7_11 / 256)) kx_247_72 (lsh8 (by omega) (by omega)) ?_
              refine s_lstore kx_247_73 km_247_8 rfl ?_
              refine s_goto (t := 58) kx_247_75 (by decide) ?_
              exact cP.wk (lS1 rfl (lS1 rfl (lS1 rfl (lS1 rfl lS0)))) (ih21 (x6_10 + 1) (x7_11 / 256) (by omega) (by omega) (by omega) (by omega) (qB_s i18 (by omega)) (Or.inr (by rw [show (x6_10 + 1 - 1) = x6_10 by omega, ← i18]; omega)) (by omega))
        exact cP.wk (lS1 rfl (lS1 rfl (lS1 rfl (lS1 rfl lS0)))) (key12 _ 0 v9 (by omega) (by omega) (by omega) (by omega) (by show _ = _ / 1; rw [Int.ediv_one]) (Or.inl rfl) (Nat.lt_succ_self _))
      · replace v7p := v7p.resolve_left (by omega)
        refine s_iconst (v := (-1)) kx_247_37 (by decide) ?_
        exact s_iret kx_247_38 (Or.inl kq_247) ⟨_, rfl, rfl, (Or.inl ⟨by omega, by omega⟩)⟩
