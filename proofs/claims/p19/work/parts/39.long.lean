/-! exact rules for longs -/
theorem lg_cmpX (v w : Int) : ((lg_cmp (Int64.ofInt v) (Int64.ofInt w)).toInt = 1 ∧ (Int64.ofInt w).toInt < (Int64.ofInt v).toInt) ∨ ((lg_cmp (Int64.ofInt v) (Int64.ofInt w)).toInt = 0 ∧ (Int64.ofInt v).toInt = (Int64.ofInt w).toInt) ∨ ((lg_cmp (Int64.ofInt v) (Int64.ofInt w)).toInt = -1 ∧ (Int64.ofInt v).toInt < (Int64.ofInt w).toInt) := by
  unfold lg_cmp
  split
  next h => exact Or.inl ⟨by decide, Int64.lt_iff_toInt_lt.mp h⟩
  next h =>
    split
    next g => exact Or.inr (Or.inl ⟨by decide, congrArg _ g⟩)
    next g =>
      refine Or.inr (Or.inr ⟨by decide, ?_⟩)
      have h1 : ¬ (Int64.ofInt w).toInt < (Int64.ofInt v).toInt := fun e => h (Int64.lt_iff_toInt_lt.mpr e)
      have h2 : ¬ (Int64.ofInt v).toInt = (Int64.ofInt w).toInt := fun e => g (Int64.toInt_inj.mp e)
      omega
theorem c_laddE {a b : Int} (h1 : -9223372036854775808 ≤ a + b) (h2 : a + b ≤ 9223372036854775807) : c_binL (· + ·) a b = a + b := by
  unfold c_binL
  dsimp only
  rw [← Int64.ofInt_add]
  exact bmod64 h1 h2
theorem c_lsubE {a b : Int} (h1 : -9223372036854775808 ≤ a - b) (h2 : a - b ≤ 9223372036854775807) : c_binL (· - ·) a b = a - b := by
  unfold c_binL
  dsimp only
  rw [← Int64.ofInt_sub]
  exact bmod64 h1 h2
theorem c_lmulE {a b : Int} (h1 : -9223372036854775808 ≤ a * b) (h2 : a * b ≤ 9223372036854775807) : c_binL (· * ·) a b = a * b := by
  unfold c_binL
  dsimp only
  rw [← Int64.ofInt_mul]
  exact bmod64 h1 h2
theorem i64_div {v w : Int} (h1 : 0 ≤ v) (h2 : v ≤ 9223372036854775807) (h3 : 0 < w) (h4 : w ≤ 9223372036854775807) : c_binL (· / ·) v w = v / w := by
  unfold c_binL
  dsimp only
  rw [Int64.toInt_div, bmod64 (by omega) h2, bmod64 (by omega) h4, Int.tdiv_eq_ediv_of_nonneg h1]
  have a1 : 0 ≤ v / w := Int.ediv_nonneg h1 (by omega)
  have a2 : v / w ≤ v := Int.ediv_le_self w h1
  exact Int.bmod_eq_of_le (by omega) (by omega)
theorem i64_rem {v w : Int} (h1 : 0 ≤ v) (h2 : v ≤ 9223372036854775807) (h3 : 0 < w) (h4 : w ≤ 9223372036854775807) : c_binL (fun x y => x - x / y * y) v w = v % w := by
  have e1 : (Int64.ofInt v).toInt = v := bmod64 (by omega) h2
  have e2 : (Int64.ofInt w).toInt = w := bmod64 (by omega) h4
  have e3 : (Int64.ofInt v / Int64.ofInt w).toInt = v / w := i64_div h1 h2 h3 h4
  have a1 : 0 ≤ v / w := Int.ediv_nonneg h1 (by omega)
  have a3 : v / w * w ≤ v := Int.ediv_mul_le v (by omega)
  have a4 : 0 ≤ v / w * w := Int.mul_nonneg a1 (by omega)
  have a5 : v % w = v - v / w * w := by
    have := Int.mul_ediv_add_emod v w
    rw [Int.mul_comm] at this
    omega
  have a6 : 0 ≤ v % w := Int.emod_nonneg v (by omega)
  unfold c_binL
  dsimp only
  rw [Int64.toInt_sub, Int64.toInt_mul, e3, e1, e2, a5]
  rw [Int.bmod_eq_of_le (n := v / w * w) (by omega) (by omega)]
  exact Int.bmod_eq_of_le (by omega) (by omega)
theorem lshr8 {v : Int} (h : 0 < (Int64.ofInt v).toInt) : (Int64.ofInt ((Int64.ofInt v >>> ((Int32.ofInt 8).toInt64 &&& 63)).toInt)).toInt < (Int64.ofInt v).toInt := by
  have e : ((Int32.ofInt 8).toInt64 &&& 63) = (8 : Int64) := by decide
  rw [e, Int64.ofInt_toInt, ← Int64.toInt_toBitVec, Int64.toBitVec_shiftRight]
  have e2 : ((8 : Int64).toBitVec.smod 64).toNat = 8 := by decide
  have e3 : ((Int64.ofInt v).toBitVec.sshiftRight' ((8 : Int64).toBitVec.smod 64)) = (Int64.ofInt v).toBitVec.sshiftRight 8 := by
    show (Int64.ofInt v).toBitVec.sshiftRight ((8 : Int64).toBitVec.smod 64).toNat = _
    rw [e2]
  rw [e3, BitVec.toInt_sshiftRight, Int64.toInt_toBitVec, Int.shiftRight_eq_div_pow]
  omega
section LNG
variable {P : xP} {xs : Nat → Int} {Ln d m pc : Nat} {L : List (Nat × cV)} {st : List cV} {T : List cK} {M : cM} {Q : Option cV → cH → Prop}
theorem r_lcmpX {v w : Int} (hc : x_code P m pc = some (.lcmp, 1)) (k : ∀ z, ((z = 1 ∧ (Int64.ofInt w).toInt < (Int64.ofInt v).toInt) ∨ (z = 0 ∧ (Int64.ofInt v).toInt = (Int64.ofInt w).toInt) ∨ (z = -1 ∧ (Int64.ofInt v).toInt < (Int64.ofInt w).toInt)) → cP P xs Ln d m (pc + 1) L ((0, z) :: st) (T, M) Q) : cP P xs Ln d m pc L ((1, w) :: (1, v) :: st) (T, M) Q := s_lcmp hc rfl (k _ (lg_cmpX v w))
theorem r_lcmpE {v w : Int} (hc : x_code P m pc = some (.lcmp, 1)) (hv : -9223372036854775808 ≤ v ∧ v ≤ 9223372036854775807) (hw : -9223372036854775808 ≤ w ∧ w ≤ 9223372036854775807) (k : ∀ z, ((z = 1 ∧ w < v) ∨ (z = 0 ∧ v = w) ∨ (z = -1 ∧ v < w)) → cP P xs Ln d m (pc + 1) L ((0, z) :: st) (T, M) Q) : cP P xs Ln d m pc L ((1, w) :: (1, v) :: st) (T, M) Q := by
  refine r_lcmpX hc (fun z hz => k z ?_)
  rw [bmod64 hv.1 hv.2, bmod64 hw.1 hw.2] at hz
  exact hz
theorem r_laddE {v w : Int} (hc : x_code P m pc = some (.ladd, 1)) (h : -9223372036854775808 ≤ v + w ∧ v + w ≤ 9223372036854775807) (k : cP P xs Ln d m (pc + 1) L ((1, v + w) :: st) (T, M) Q) : cP P xs Ln d m pc L ((1, w) :: (1, v) :: st) (T, M) Q := s_ladd hc (c_laddE h.1 h.2) k
theorem r_lsubE {v w : Int} (hc : x_code P m pc = some (.lsub, 1)) (h : -9223372036854775808 ≤ v - w ∧ v - w ≤ 9223372036854775807) (k : cP P xs Ln d m (pc + 1) L ((1, v - w) :: st) (T, M) Q) : cP P xs Ln d m pc L ((1, w) :: (1, v) :: st) (T, M) Q := s_lsub hc (c_lsubE h.1 h.2) k
theorem r_lmulE {v w : Int} (hc : x_code P m pc = some (.lmul, 1)) (h : -9223372036854775808 ≤ v * w ∧ v * w ≤ 9223372036854775807) (k : cP P xs Ln d m (pc + 1) L ((1, v * w) :: st) (T, M) Q) : cP P xs Ln d m pc L ((1, w) :: (1, v) :: st) (T, M) Q := s_lmul hc (c_lmulE h.1 h.2) k
theorem r_ldivE {v w : Int} (hc : x_code P m pc = some (.ldiv, 1)) (h1 : 0 ≤ v) (h2 : v ≤ 9223372036854775807) (h3 : 0 < w) (h4 : w ≤ 9223372036854775807) (k : cP P xs Ln d m (pc + 1) L ((1, v / w) :: st) (T, M) Q) : cP P xs Ln d m pc L ((1, w) :: (1, v) :: st) (T, M) Q := s_ldiv hc (by omega) (i64_div h1 h2 h3 h4) k
theorem r_lremE {v w : Int} (hc : x_code P m pc = some (.lrem, 1)) (h1 : 0 ≤ v) (h2 : v ≤ 9223372036854775807) (h3 : 0 < w) (h4 : w ≤ 9223372036854775807) (k : cP P xs Ln d m (pc + 1) L ((1, v % w) :: st) (T, M) Q) : cP P xs Ln d m pc L ((1, w) :: (1, v) :: st) (T, M) Q := s_lrem hc (by omega) (i64_rem h1 h2 h3 h4) k
theorem r_lremP {v w : Int} (hc : x_code P m pc = some (.lrem, 1)) (h1 : 0 ≤ v) (h2 : v ≤ 9223372036854775807) (h3 : 0 < w) (h4 : w ≤ 9223372036854775807) (k : ∀ z, 0 ≤ z → z < w → cP P xs Ln d m (pc + 1) L ((1, z) :: st) (T, M) Q) : cP P xs Ln d m pc L ((1, w) :: (1, v) :: st) (T, M) Q := s_lrem hc (by omega) (i64_rem h1 h2 h3 h4) (k _ (Int.emod_nonneg v (by omega)) (Int.emod_lt_of_pos v h3))
theorem r_lshr8 {v : Int} (hc : x_code P m pc = some (.lshr, 1)) (h : 0 < (Int64.ofInt v).toInt) (k : ∀ z, (Int64.ofInt z).toInt < (Int64.ofInt v).toInt → cP P xs Ln d m (pc + 1) L ((1, z) :: st) (T, M) Q) : cP P xs Ln d m pc L ((0, 8) :: (1, v) :: st) (T, M) Q := s_lshr hc rfl (k _ (lshr8 h))
theorem r_l2iX {v : Int} (hc : x_code P m pc = some (.l2i, 1)) (h1 : -2147483648 ≤ (Int64.ofInt v).toInt) (h2 : (Int64.ofInt v).toInt ≤ 2147483647) (k : cP P xs Ln d m (pc + 1) L ((0, (Int64.ofInt v).toInt) :: st) (T, M) Q) : cP P xs Ln d m pc L ((1, v) :: st) (T, M) Q := by
  refine s_l2i hc ?_ k
  rw [Int64.toInt_toInt32]
  exact Int.bmod_eq_of_le (by omega) (by omega)
end LNG
