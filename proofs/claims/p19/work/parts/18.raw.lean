/-! raw values: what an operation gives is only known by its range; exact ones for numbers from 0 up -/
theorem c_andM {a w : Int} (h0 : 0 ≤ w) (h1 : w ≤ 2147483647) : 0 ≤ c_bin (· &&& ·) a w ∧ c_bin (· &&& ·) a w ≤ w := by
  have hn : (Int32.ofInt w).toBitVec.toNat = w.toNat := by
    show (BitVec.ofInt 32 w).toNat = w.toNat
    rw [BitVec.toNat_ofInt]
    have : w % ((2 ^ 32 : Nat) : Int) = w := Int.emod_eq_of_lt h0 (by omega)
    rw [this]
  have h2 : ((Int32.ofInt a).toBitVec &&& (Int32.ofInt w).toBitVec).toNat ≤ w.toNat := by
    rw [BitVec.toNat_and, hn]
    exact Nat.and_le_right
  have h3 : c_bin (· &&& ·) a w = ((Int32.ofInt a).toBitVec &&& (Int32.ofInt w).toBitVec).toInt := rfl
  rw [h3, BitVec.toInt_eq_toNat_of_lt (by omega)]
  omega
theorem i32_div {v w : Int} (h1 : 0 ≤ v) (h2 : v ≤ 2147483647) (h3 : 0 < w) (h4 : w ≤ 2147483647) : c_bin (· / ·) v w = v / w := by
  unfold c_bin
  dsimp only
  rw [Int32.toInt_div, bmod32 (by omega) h2, bmod32 (by omega) h4, Int.tdiv_eq_ediv_of_nonneg h1]
  have a1 : 0 ≤ v / w := Int.ediv_nonneg h1 (by omega)
  have a2 : v / w ≤ v := Int.ediv_le_self w h1
  exact Int.bmod_eq_of_le (by omega) (by omega)
theorem i32_rem {v w : Int} (h1 : 0 ≤ v) (h2 : v ≤ 2147483647) (h3 : 0 < w) (h4 : w ≤ 2147483647) : c_bin (fun x y => x - x / y * y) v w = v % w := by
  have e1 : (Int32.ofInt v).toInt = v := bmod32 (by omega) h2
  have e2 : (Int32.ofInt w).toInt = w := bmod32 (by omega) h4
  have e3 : (Int32.ofInt v / Int32.ofInt w).toInt = v / w := i32_div h1 h2 h3 h4
  have a1 : 0 ≤ v / w := Int.ediv_nonneg h1 (by omega)
  have a3 : v / w * w ≤ v := Int.ediv_mul_le v (by omega)
  have a4 : 0 ≤ v / w * w := Int.mul_nonneg a1 (by omega)
  have a5 : v % w = v - v / w * w := by
    have := Int.mul_ediv_add_emod v w
    rw [Int.mul_comm] at this
    omega
  have a6 : 0 ≤ v % w := Int.emod_nonneg v (by omega)
  unfold c_bin
  dsimp only
  rw [Int32.toInt_sub, Int32.toInt_mul, e3, e1, e2, a5]
  rw [Int.bmod_eq_of_le (n := v / w * w) (by omega) (by omega)]
  exact Int.bmod_eq_of_le (by omega) (by omega)
theorem c_landM {a w : Int} (h0 : 0 ≤ w) (h1 : w ≤ 9223372036854775807) : 0 ≤ c_binL (· &&& ·) a w ∧ c_binL (· &&& ·) a w ≤ w := by
  have hn : (Int64.ofInt w).toBitVec.toNat = w.toNat := by
    show (BitVec.ofInt 64 w).toNat = w.toNat
    rw [BitVec.toNat_ofInt]
    have : w % ((2 ^ 64 : Nat) : Int) = w := Int.emod_eq_of_lt h0 (by omega)
    rw [this]
  have h2 : ((Int64.ofInt a).toBitVec &&& (Int64.ofInt w).toBitVec).toNat ≤ w.toNat := by
    rw [BitVec.toNat_and, hn]
    exact Nat.and_le_right
  have h3 : c_binL (· &&& ·) a w = ((Int64.ofInt a).toBitVec &&& (Int64.ofInt w).toBitVec).toInt := rfl
  rw [h3, BitVec.toInt_eq_toNat_of_lt (by omega)]
  omega
theorem bmod64 {z : Int} (h1 : -9223372036854775808 ≤ z) (h2 : z ≤ 9223372036854775807) : (Int64.ofInt z).toInt = z := by
  rw [Int64.toInt_ofInt]
  have e : Int64.size = 18446744073709551616 := rfl
  exact Int.bmod_eq_of_le (by rw [e]; omega) (by rw [e]; omega)
theorem l2i_E {v : Int} (h1 : -2147483648 ≤ v) (h2 : v ≤ 2147483647) : (Int64.ofInt v).toInt32.toInt = v := by
  rw [Int64.toInt_toInt32, bmod64 (by omega) (by omega)]
  exact Int.bmod_eq_of_le (by omega) (by omega)
section RAW
variable {P : xP} {xs : Nat → Int} {Ln d m pc : Nat} {L : List (Nat × cV)} {st : List cV} {T : List cK} {M : cM} {Q : Option cV → cH → Prop}
theorem r_iandM {v w : Int} (hc : x_code P m pc = some (.iand, 1)) (h0 : 0 ≤ w) (h1 : w ≤ 2147483647) (k : ∀ z, 0 ≤ z → z ≤ w → cP P xs Ln d m (pc + 1) L ((0, z) :: st) (T, M) Q) : cP P xs Ln d m pc L ((0, w) :: (0, v) :: st) (T, M) Q := s_iand hc rfl (k _ (c_andM h0 h1).1 (c_andM h0 h1).2)
theorem r_idiv {v w : Int} (hc : x_code P m pc = some (.idiv, 1)) (h1 : 0 ≤ v) (h2 : v ≤ 2147483647) (h3 : 0 < w) (h4 : w ≤ 2147483647) (k : cP P xs Ln d m (pc + 1) L ((0, v / w) :: st) (T, M) Q) : cP P xs Ln d m pc L ((0, w) :: (0, v) :: st) (T, M) Q := s_idiv hc (by omega) (i32_div h1 h2 h3 h4) k
theorem r_irem {v w : Int} (hc : x_code P m pc = some (.irem, 1)) (h1 : 0 ≤ v) (h2 : v ≤ 2147483647) (h3 : 0 < w) (h4 : w ≤ 2147483647) (k : cP P xs Ln d m (pc + 1) L ((0, v % w) :: st) (T, M) Q) : cP P xs Ln d m pc L ((0, w) :: (0, v) :: st) (T, M) Q := s_irem hc (by omega) (i32_rem h1 h2 h3 h4) k
theorem r_iremP {v w : Int} (hc : x_code P m pc = some (.irem, 1)) (h1 : 0 ≤ v) (h2 : v ≤ 2147483647) (h3 : 0 < w) (h4 : w ≤ 2147483647) (k : ∀ z, 0 ≤ z → z < w → cP P xs Ln d m (pc + 1) L ((0, z) :: st) (T, M) Q) : cP P xs Ln d m pc L ((0, w) :: (0, v) :: st) (T, M) Q := s_irem hc (by omega) (i32_rem h1 h2 h3 h4) (k _ (Int.emod_nonneg _ (by omega)) (Int.emod_lt_of_pos _ h3))
theorem r_iincR {z : Nat} {zc v : Int} (hc : x_code P m pc = some (.iinc z zc, 3)) (hl : c_find L z = some (0, v)) (hm : z < x_maxL P m) (k : ∀ w, -2147483648 ≤ w → w ≤ 2147483647 → cP P xs Ln d m (pc + 3) (c_put1 L z (0, w)) st (T, M) Q) : cP P xs Ln d m pc L st (T, M) Q := s_iinc hc hl hm rfl rfl (k _ (c_bin_rng ..).1 (c_bin_rng ..).2)
theorem r_iaddR {v w : Int} (hc : x_code P m pc = some (.iadd, 1)) (k : ∀ z, -2147483648 ≤ z → z ≤ 2147483647 → cP P xs Ln d m (pc + 1) L ((0, z) :: st) (T, M) Q) : cP P xs Ln d m pc L ((0, w) :: (0, v) :: st) (T, M) Q := s_iadd hc rfl (k _ (c_bin_rng ..).1 (c_bin_rng ..).2)
theorem r_isubR {v w : Int} (hc : x_code P m pc = some (.isub, 1)) (k : ∀ z, -2147483648 ≤ z → z ≤ 2147483647 → cP P xs Ln d m (pc + 1) L ((0, z) :: st) (T, M) Q) : cP P xs Ln d m pc L ((0, w) :: (0, v) :: st) (T, M) Q := s_isub hc rfl (k _ (c_bin_rng ..).1 (c_bin_rng ..).2)
theorem r_imulR {v w : Int} (hc : x_code P m pc = some (.imul, 1)) (k : ∀ z, -2147483648 ≤ z → z ≤ 2147483647 → cP P xs Ln d m (pc + 1) L ((0, z) :: st) (T, M) Q) : cP P xs Ln d m pc L ((0, w) :: (0, v) :: st) (T, M) Q := s_imul hc rfl (k _ (c_bin_rng ..).1 (c_bin_rng ..).2)
theorem r_iandR {v w : Int} (hc : x_code P m pc = some (.iand, 1)) (k : ∀ z, -2147483648 ≤ z → z ≤ 2147483647 → cP P xs Ln d m (pc + 1) L ((0, z) :: st) (T, M) Q) : cP P xs Ln d m pc L ((0, w) :: (0, v) :: st) (T, M) Q := s_iand hc rfl (k _ (c_bin_rng ..).1 (c_bin_rng ..).2)
theorem r_iorR {v w : Int} (hc : x_code P m pc = some (.ior, 1)) (k : ∀ z, -2147483648 ≤ z → z ≤ 2147483647 → cP P xs Ln d m (pc + 1) L ((0, z) :: st) (T, M) Q) : cP P xs Ln d m pc L ((0, w) :: (0, v) :: st) (T, M) Q := s_ior hc rfl (k _ (c_bin_rng ..).1 (c_bin_rng ..).2)
theorem r_ixorR {v w : Int} (hc : x_code P m pc = some (.ixor, 1)) (k : ∀ z, -2147483648 ≤ z → z ≤ 2147483647 → cP P xs Ln d m (pc + 1) L ((0, z) :: st) (T, M) Q) : cP P xs Ln d m pc L ((0, w) :: (0, v) :: st) (T, M) Q := s_ixor hc rfl (k _ (c_bin_rng ..).1 (c_bin_rng ..).2)
theorem r_ishlR {v w : Int} (hc : x_code P m pc = some (.ishl, 1)) (k : ∀ z, -2147483648 ≤ z → z ≤ 2147483647 → cP P xs Ln d m (pc + 1) L ((0, z) :: st) (T, M) Q) : cP P xs Ln d m pc L ((0, w) :: (0, v) :: st) (T, M) Q := s_ishl hc rfl (k _ (c_bin_rng ..).1 (c_bin_rng ..).2)
theorem r_ishrR {v w : Int} (hc : x_code P m pc = some (.ishr, 1)) (k : ∀ z, -2147483648 ≤ z → z ≤ 2147483647 → cP P xs Ln d m (pc + 1) L ((0, z) :: st) (T, M) Q) : cP P xs Ln d m pc L ((0, w) :: (0, v) :: st) (T, M) Q := s_ishr hc rfl (k _ (c_bin_rng ..).1 (c_bin_rng ..).2)
theorem r_iushrR {v w : Int} (hc : x_code P m pc = some (.iushr, 1)) (k : ∀ z, -2147483648 ≤ z → z ≤ 2147483647 → cP P xs Ln d m (pc + 1) L ((0, z) :: st) (T, M) Q) : cP P xs Ln d m pc L ((0, w) :: (0, v) :: st) (T, M) Q := s_iushr hc rfl (k _ (c_bin_rng ..).1 (c_bin_rng ..).2)
theorem r_idivR {v w : Int} (hc : x_code P m pc = some (.idiv, 1)) (h0 : w ≠ 0) (k : ∀ z, -2147483648 ≤ z → z ≤ 2147483647 → cP P xs Ln d m (pc + 1) L ((0, z) :: st) (T, M) Q) : cP P xs Ln d m pc L ((0, w) :: (0, v) :: st) (T, M) Q := s_idiv hc h0 rfl (k _ (c_bin_rng ..).1 (c_bin_rng ..).2)
theorem r_iremR {v w : Int} (hc : x_code P m pc = some (.irem, 1)) (h0 : w ≠ 0) (k : ∀ z, -2147483648 ≤ z → z ≤ 2147483647 → cP P xs Ln d m (pc + 1) L ((0, z) :: st) (T, M) Q) : cP P xs Ln d m pc L ((0, w) :: (0, v) :: st) (T, M) Q := s_irem hc h0 rfl (k _ (c_bin_rng ..).1 (c_bin_rng ..).2)
theorem i64_rng (x : Int64) : -9223372036854775808 ≤ x.toInt ∧ x.toInt ≤ 9223372036854775807 := by
  have h1 := x.le_toInt
  have h2 := x.toInt_lt
  omega
theorem r_laddR {v w : Int} (hc : x_code P m pc = some (.ladd, 1)) (k : ∀ z, -9223372036854775808 ≤ z → z ≤ 9223372036854775807 → cP P xs Ln d m (pc + 1) L ((1, z) :: st) (T, M) Q) : cP P xs Ln d m pc L ((1, w) :: (1, v) :: st) (T, M) Q := s_ladd hc rfl (k _ (i64_rng _).1 (i64_rng _).2)
theorem r_lsubR {v w : Int} (hc : x_code P m pc = some (.lsub, 1)) (k : ∀ z, -9223372036854775808 ≤ z → z ≤ 9223372036854775807 → cP P xs Ln d m (pc + 1) L ((1, z) :: st) (T, M) Q) : cP P xs Ln d m pc L ((1, w) :: (1, v) :: st) (T, M) Q := s_lsub hc rfl (k _ (i64_rng _).1 (i64_rng _).2)
theorem r_lmulR {v w : Int} (hc : x_code P m pc = some (.lmul, 1)) (k : ∀ z, -9223372036854775808 ≤ z → z ≤ 9223372036854775807 → cP P xs Ln d m (pc + 1) L ((1, z) :: st) (T, M) Q) : cP P xs Ln d m pc L ((1, w) :: (1, v) :: st) (T, M) Q := s_lmul hc rfl (k _ (i64_rng _).1 (i64_rng _).2)
theorem r_landR {v w : Int} (hc : x_code P m pc = some (.land, 1)) (k : ∀ z, -9223372036854775808 ≤ z → z ≤ 9223372036854775807 → cP P xs Ln d m (pc + 1) L ((1, z) :: st) (T, M) Q) : cP P xs Ln d m pc L ((1, w) :: (1, v) :: st) (T, M) Q := s_land hc rfl (k _ (i64_rng _).1 (i64_rng _).2)
theorem r_lorR {v w : Int} (hc : x_code P m pc = some (.lor, 1)) (k : ∀ z, -9223372036854775808 ≤ z → z ≤ 9223372036854775807 → cP P xs Ln d m (pc + 1) L ((1, z) :: st) (T, M) Q) : cP P xs Ln d m pc L ((1, w) :: (1, v) :: st) (T, M) Q := s_lor hc rfl (k _ (i64_rng _).1 (i64_rng _).2)
theorem r_lxorR {v w : Int} (hc : x_code P m pc = some (.lxor, 1)) (k : ∀ z, -9223372036854775808 ≤ z → z ≤ 9223372036854775807 → cP P xs Ln d m (pc + 1) L ((1, z) :: st) (T, M) Q) : cP P xs Ln d m pc L ((1, w) :: (1, v) :: st) (T, M) Q := s_lxor hc rfl (k _ (i64_rng _).1 (i64_rng _).2)
theorem r_lshlR {v w : Int} (hc : x_code P m pc = some (.lshl, 1)) (k : ∀ z, -9223372036854775808 ≤ z → z ≤ 9223372036854775807 → cP P xs Ln d m (pc + 1) L ((1, z) :: st) (T, M) Q) : cP P xs Ln d m pc L ((0, w) :: (1, v) :: st) (T, M) Q := s_lshl hc rfl (k _ (i64_rng _).1 (i64_rng _).2)
theorem r_lshrR {v w : Int} (hc : x_code P m pc = some (.lshr, 1)) (k : ∀ z, -9223372036854775808 ≤ z → z ≤ 9223372036854775807 → cP P xs Ln d m (pc + 1) L ((1, z) :: st) (T, M) Q) : cP P xs Ln d m pc L ((0, w) :: (1, v) :: st) (T, M) Q := s_lshr hc rfl (k _ (i64_rng _).1 (i64_rng _).2)
theorem r_ldivR {v w : Int} (hc : x_code P m pc = some (.ldiv, 1)) (h0 : w ≠ 0) (k : ∀ z, -9223372036854775808 ≤ z → z ≤ 9223372036854775807 → cP P xs Ln d m (pc + 1) L ((1, z) :: st) (T, M) Q) : cP P xs Ln d m pc L ((1, w) :: (1, v) :: st) (T, M) Q := s_ldiv hc h0 rfl (k _ (i64_rng _).1 (i64_rng _).2)
theorem r_lremR {v w : Int} (hc : x_code P m pc = some (.lrem, 1)) (h0 : w ≠ 0) (k : ∀ z, -9223372036854775808 ≤ z → z ≤ 9223372036854775807 → cP P xs Ln d m (pc + 1) L ((1, z) :: st) (T, M) Q) : cP P xs Ln d m pc L ((1, w) :: (1, v) :: st) (T, M) Q := s_lrem hc h0 rfl (k _ (i64_rng _).1 (i64_rng _).2)
theorem r_lcmpR {v w : Int} (hc : x_code P m pc = some (.lcmp, 1)) (k : ∀ z, cP P xs Ln d m (pc + 1) L ((0, z) :: st) (T, M) Q) : cP P xs Ln d m pc L ((1, w) :: (1, v) :: st) (T, M) Q := s_lcmp hc rfl (k _)
theorem r_l2iR {v : Int} (hc : x_code P m pc = some (.l2i, 1)) (k : ∀ z, -2147483648 ≤ z → z ≤ 2147483647 → cP P xs Ln d m (pc + 1) L ((0, z) :: st) (T, M) Q) : cP P xs Ln d m pc L ((1, v) :: st) (T, M) Q := s_l2i hc rfl (k _ (i32_rng _).1 (i32_rng _).2)
theorem r_landM {v w : Int} (hc : x_code P m pc = some (.land, 1)) (h0 : 0 ≤ w) (h1 : w ≤ 9223372036854775807) (k : ∀ z, 0 ≤ z → z ≤ w → cP P xs Ln d m (pc + 1) L ((1, z) :: st) (T, M) Q) : cP P xs Ln d m pc L ((1, w) :: (1, v) :: st) (T, M) Q := s_land hc rfl (k _ (c_landM h0 h1).1 (c_landM h0 h1).2)
theorem r_l2iE {v : Int} (hc : x_code P m pc = some (.l2i, 1)) (h1 : -2147483648 ≤ v) (h2 : v ≤ 2147483647) (k : cP P xs Ln d m (pc + 1) L ((0, v) :: st) (T, M) Q) : cP P xs Ln d m pc L ((1, v) :: st) (T, M) Q := s_l2i hc (l2i_E h1 h2) k
end RAW
