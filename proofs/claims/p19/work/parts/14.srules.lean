/-! one rule an instruction, over the pure machine's runs -/
section SR
variable {P : xP} {xs : Nat → Int} {Ln d m pc : Nat} {L : List (Nat × cV)} {st : List cV} {T : List cK} {M : cM} {Q : Option cV → cH → Prop}
theorem s_iconst {z v : Int} (hc : x_code P m pc = some (.iconst z, 1)) (hv : (Int32.ofInt z).toInt = v) (k : cP P xs Ln d m (pc + 1) L ((0, v) :: st) (T, M) Q) : cP P xs Ln d m pc L st (T, M) Q :=
  cP.step (q := ((pc + 1), L, ((0, v) :: st), (T, M))) hc (by subst hv; rfl) k
theorem s_bipush {z v : Int} (hc : x_code P m pc = some (.bipush z, 2)) (hv : (Int8.ofInt z).toInt32.toInt = v) (k : cP P xs Ln d m (pc + 2) L ((0, v) :: st) (T, M) Q) : cP P xs Ln d m pc L st (T, M) Q :=
  cP.step (q := ((pc + 2), L, ((0, v) :: st), (T, M))) hc (by subst hv; rfl) k
theorem s_sipush {z v : Int} (hc : x_code P m pc = some (.sipush z, 3)) (hv : (Int16.ofInt z).toInt32.toInt = v) (k : cP P xs Ln d m (pc + 3) L ((0, v) :: st) (T, M) Q) : cP P xs Ln d m pc L st (T, M) Q :=
  cP.step (q := ((pc + 3), L, ((0, v) :: st), (T, M))) hc (by subst hv; rfl) k
theorem s_lconst {z : Fin 2} {v : Int} (hc : x_code P m pc = some (.lconst z, 1)) (hv : (Int64.ofNat (z : Nat)).toInt = v) (k : cP P xs Ln d m (pc + 1) L ((1, v) :: st) (T, M) Q) : cP P xs Ln d m pc L st (T, M) Q :=
  cP.step (q := ((pc + 1), L, ((1, v) :: st), (T, M))) hc (by subst hv; rfl) k
theorem s_ldc {idx a : Nat} {v : Int} (hc : x_code P m pc = some (.ldc idx, 2)) (hp : x_pool P m idx = (7, a, v)) (k : cP P xs Ln d m (pc + 2) L ((0, v) :: st) (T, M) Q) : cP P xs Ln d m pc L st (T, M) Q :=
  cP.step (q := ((pc + 2), L, ((0, v) :: st), (T, M))) hc (by show (match x_pool P m idx with | (7, _, c) => c_go pc (T, M) 2 L ((0, c) :: st) | _ => none) = _; rw [hp]; rfl) k
theorem s_ldc_w {idx a : Nat} {v : Int} (hc : x_code P m pc = some (.ldc_w idx, 3)) (hp : x_pool P m idx = (7, a, v)) (k : cP P xs Ln d m (pc + 3) L ((0, v) :: st) (T, M) Q) : cP P xs Ln d m pc L st (T, M) Q :=
  cP.step (q := ((pc + 3), L, ((0, v) :: st), (T, M))) hc (by show (match x_pool P m idx with | (7, _, c) => c_go pc (T, M) 3 L ((0, c) :: st) | _ => none) = _; rw [hp]; rfl) k
theorem s_ldc2_w {idx a : Nat} {v : Int} (hc : x_code P m pc = some (.ldc2_w idx, 3)) (hp : x_pool P m idx = (8, a, v)) (k : cP P xs Ln d m (pc + 3) L ((1, v) :: st) (T, M) Q) : cP P xs Ln d m pc L st (T, M) Q :=
  cP.step (q := ((pc + 3), L, ((1, v) :: st), (T, M))) hc (by show (match x_pool P m idx with | (8, _, c) => c_go pc (T, M) 3 L ((1, c) :: st) | _ => none) = _; rw [hp]; rfl) k
theorem s_iload {z : Nat} {v : Int} (hc : x_code P m pc = some (.iload z, 2)) (hl : c_find L z = some (0, v)) (k : cP P xs Ln d m (pc + 2) L ((0, v) :: st) (T, M) Q) : cP P xs Ln d m pc L st (T, M) Q :=
  cP.step (q := ((pc + 2), L, ((0, v) :: st), (T, M))) hc (by show c_ld pc L st (T, M) 2 0 z = _; unfold c_ld; rw [hl]; rfl) k
theorem s_iload_n {z : Fin 4} {v : Int} (hc : x_code P m pc = some (.iload_n z, 1)) (hl : c_find L (z : Nat) = some (0, v)) (k : cP P xs Ln d m (pc + 1) L ((0, v) :: st) (T, M) Q) : cP P xs Ln d m pc L st (T, M) Q :=
  cP.step (q := ((pc + 1), L, ((0, v) :: st), (T, M))) hc (by show c_ld pc L st (T, M) 1 0 (z : Nat) = _; unfold c_ld; rw [hl]; rfl) k
theorem s_lload {z : Nat} {v : Int} (hc : x_code P m pc = some (.lload z, 2)) (hl : c_find L z = some (1, v)) (k : cP P xs Ln d m (pc + 2) L ((1, v) :: st) (T, M) Q) : cP P xs Ln d m pc L st (T, M) Q :=
  cP.step (q := ((pc + 2), L, ((1, v) :: st), (T, M))) hc (by show c_ld pc L st (T, M) 2 1 z = _; unfold c_ld; rw [hl]; rfl) k
theorem s_lload_n {z : Fin 4} {v : Int} (hc : x_code P m pc = some (.lload_n z, 1)) (hl : c_find L (z : Nat) = some (1, v)) (k : cP P xs Ln d m (pc + 1) L ((1, v) :: st) (T, M) Q) : cP P xs Ln d m pc L st (T, M) Q :=
  cP.step (q := ((pc + 1), L, ((1, v) :: st), (T, M))) hc (by show c_ld pc L st (T, M) 1 1 (z : Nat) = _; unfold c_ld; rw [hl]; rfl) k
theorem s_aload {z : Nat} {v : Int} (hc : x_code P m pc = some (.aload z, 2)) (hl : c_find L z = some (3, v)) (k : cP P xs Ln d m (pc + 2) L ((3, v) :: st) (T, M) Q) : cP P xs Ln d m pc L st (T, M) Q :=
  cP.step (q := ((pc + 2), L, ((3, v) :: st), (T, M))) hc (by show c_lda pc L st (T, M) 2 z = _; unfold c_lda; rw [hl]; rfl) k
theorem s_aloadS {z : Nat} {v : Int} (hc : x_code P m pc = some (.aload z, 2)) (hl : c_find L z = some (4, v)) (k : cP P xs Ln d m (pc + 2) L ((4, v) :: st) (T, M) Q) : cP P xs Ln d m pc L st (T, M) Q :=
  cP.step (q := ((pc + 2), L, ((4, v) :: st), (T, M))) hc (by show c_lda pc L st (T, M) 2 z = _; unfold c_lda; rw [hl]; rfl) k
theorem s_aload_n {z : Fin 4} {v : Int} (hc : x_code P m pc = some (.aload_n z, 1)) (hl : c_find L (z : Nat) = some (3, v)) (k : cP P xs Ln d m (pc + 1) L ((3, v) :: st) (T, M) Q) : cP P xs Ln d m pc L st (T, M) Q :=
  cP.step (q := ((pc + 1), L, ((3, v) :: st), (T, M))) hc (by show c_lda pc L st (T, M) 1 (z : Nat) = _; unfold c_lda; rw [hl]; rfl) k
theorem s_aload_nS {z : Fin 4} {v : Int} (hc : x_code P m pc = some (.aload_n z, 1)) (hl : c_find L (z : Nat) = some (4, v)) (k : cP P xs Ln d m (pc + 1) L ((4, v) :: st) (T, M) Q) : cP P xs Ln d m pc L st (T, M) Q :=
  cP.step (q := ((pc + 1), L, ((4, v) :: st), (T, M))) hc (by show c_lda pc L st (T, M) 1 (z : Nat) = _; unfold c_lda; rw [hl]; rfl) k
theorem s_istore {z : Nat} {v : Int} {L' : List (Nat × cV)} (hc : x_code P m pc = some (.istore z, 2)) (hm : z < x_maxL P m) (hL : c_put1 L z (0, v) = L') (k : cP P xs Ln d m (pc + 2) L' st (T, M) Q) : cP P xs Ln d m pc L ((0, v) :: st) (T, M) Q :=
  cP.step (q := ((pc + 2), L', st, (T, M))) hc (by subst hL; exact if_pos ⟨rfl, hm⟩) k
theorem s_istore_n {z : Fin 4} {v : Int} {L' : List (Nat × cV)} (hc : x_code P m pc = some (.istore_n z, 1)) (hm : (z : Nat) < x_maxL P m) (hL : c_put1 L (z : Nat) (0, v) = L') (k : cP P xs Ln d m (pc + 1) L' st (T, M) Q) : cP P xs Ln d m pc L ((0, v) :: st) (T, M) Q :=
  cP.step (q := ((pc + 1), L', st, (T, M))) hc (by subst hL; exact if_pos ⟨rfl, hm⟩) k
theorem s_astore {z : Nat} {v : Int} {L' : List (Nat × cV)} (hc : x_code P m pc = some (.astore z, 2)) (hm : z < x_maxL P m) (hL : c_put1 L z (3, v) = L') (k : cP P xs Ln d m (pc + 2) L' st (T, M) Q) : cP P xs Ln d m pc L ((3, v) :: st) (T, M) Q :=
  cP.step (q := ((pc + 2), L', st, (T, M))) hc (by subst hL; exact if_pos ⟨rfl, hm⟩) k
theorem s_astore_n {z : Fin 4} {v : Int} {L' : List (Nat × cV)} (hc : x_code P m pc = some (.astore_n z, 1)) (hm : (z : Nat) < x_maxL P m) (hL : c_put1 L (z : Nat) (3, v) = L') (k : cP P xs Ln d m (pc + 1) L' st (T, M) Q) : cP P xs Ln d m pc L ((3, v) :: st) (T, M) Q :=
  cP.step (q := ((pc + 1), L', st, (T, M))) hc (by subst hL; exact if_pos ⟨rfl, hm⟩) k
theorem s_lstore {z : Nat} {v : Int} {L' : List (Nat × cV)} (hc : x_code P m pc = some (.lstore z, 2)) (hm : z + 1 < x_maxL P m) (hL : c_put2 L z (1, v) = L') (k : cP P xs Ln d m (pc + 2) L' st (T, M) Q) : cP P xs Ln d m pc L ((1, v) :: st) (T, M) Q :=
  cP.step (q := ((pc + 2), L', st, (T, M))) hc (by subst hL; exact if_pos ⟨rfl, hm⟩) k
theorem s_lstore_n {z : Fin 4} {v : Int} {L' : List (Nat × cV)} (hc : x_code P m pc = some (.lstore_n z, 1)) (hm : (z : Nat) + 1 < x_maxL P m) (hL : c_put2 L (z : Nat) (1, v) = L') (k : cP P xs Ln d m (pc + 1) L' st (T, M) Q) : cP P xs Ln d m pc L ((1, v) :: st) (T, M) Q :=
  cP.step (q := ((pc + 1), L', st, (T, M))) hc (by subst hL; exact if_pos ⟨rfl, hm⟩) k
theorem s_iinc {z : Nat} {zc v w : Int} {L' : List (Nat × cV)} (hc : x_code P m pc = some (.iinc z zc, 3)) (hl : c_find L z = some (0, v)) (hm : z < x_maxL P m) (hw : c_bin (· + ·) v (Int32.ofInt zc).toInt = w) (hL : c_put1 L z (0, w) = L') (k : cP P xs Ln d m (pc + 3) L' st (T, M) Q) : cP P xs Ln d m pc L st (T, M) Q :=
  cP.step (q := ((pc + 3), L', st, (T, M))) hc (by subst hL; subst hw; show c_iinc P m pc L st (T, M) z zc = _; unfold c_iinc; rw [hl]; exact if_pos ⟨rfl, hm⟩) k
theorem s_iadd {v w z : Int} (hc : x_code P m pc = some (.iadd, 1)) (hz : c_bin (· + ·) v w = z) (k : cP P xs Ln d m (pc + 1) L ((0, z) :: st) (T, M) Q) : cP P xs Ln d m pc L ((0, w) :: (0, v) :: st) (T, M) Q :=
  cP.step (q := ((pc + 1), L, ((0, z) :: st), (T, M))) hc (by subst hz; rfl) k
theorem s_isub {v w z : Int} (hc : x_code P m pc = some (.isub, 1)) (hz : c_bin (· - ·) v w = z) (k : cP P xs Ln d m (pc + 1) L ((0, z) :: st) (T, M) Q) : cP P xs Ln d m pc L ((0, w) :: (0, v) :: st) (T, M) Q :=
  cP.step (q := ((pc + 1), L, ((0, z) :: st), (T, M))) hc (by subst hz; rfl) k
theorem s_imul {v w z : Int} (hc : x_code P m pc = some (.imul, 1)) (hz : c_bin (· * ·) v w = z) (k : cP P xs Ln d m (pc + 1) L ((0, z) :: st) (T, M) Q) : cP P xs Ln d m pc L ((0, w) :: (0, v) :: st) (T, M) Q :=
  cP.step (q := ((pc + 1), L, ((0, z) :: st), (T, M))) hc (by subst hz; rfl) k
theorem s_iand {v w z : Int} (hc : x_code P m pc = some (.iand, 1)) (hz : c_bin (· &&& ·) v w = z) (k : cP P xs Ln d m (pc + 1) L ((0, z) :: st) (T, M) Q) : cP P xs Ln d m pc L ((0, w) :: (0, v) :: st) (T, M) Q :=
  cP.step (q := ((pc + 1), L, ((0, z) :: st), (T, M))) hc (by subst hz; rfl) k
theorem s_ior {v w z : Int} (hc : x_code P m pc = some (.ior, 1)) (hz : c_bin (· ||| ·) v w = z) (k : cP P xs Ln d m (pc + 1) L ((0, z) :: st) (T, M) Q) : cP P xs Ln d m pc L ((0, w) :: (0, v) :: st) (T, M) Q :=
  cP.step (q := ((pc + 1), L, ((0, z) :: st), (T, M))) hc (by subst hz; rfl) k
theorem s_ixor {v w z : Int} (hc : x_code P m pc = some (.ixor, 1)) (hz : c_bin (· ^^^ ·) v w = z) (k : cP P xs Ln d m (pc + 1) L ((0, z) :: st) (T, M) Q) : cP P xs Ln d m pc L ((0, w) :: (0, v) :: st) (T, M) Q :=
  cP.step (q := ((pc + 1), L, ((0, z) :: st), (T, M))) hc (by subst hz; rfl) k
theorem s_ishl {v w z : Int} (hc : x_code P m pc = some (.ishl, 1)) (hz : c_bin (fun x y => x <<< (y &&& 31)) v w = z) (k : cP P xs Ln d m (pc + 1) L ((0, z) :: st) (T, M) Q) : cP P xs Ln d m pc L ((0, w) :: (0, v) :: st) (T, M) Q :=
  cP.step (q := ((pc + 1), L, ((0, z) :: st), (T, M))) hc (by subst hz; rfl) k
theorem s_ishr {v w z : Int} (hc : x_code P m pc = some (.ishr, 1)) (hz : c_bin (fun x y => x >>> (y &&& 31)) v w = z) (k : cP P xs Ln d m (pc + 1) L ((0, z) :: st) (T, M) Q) : cP P xs Ln d m pc L ((0, w) :: (0, v) :: st) (T, M) Q :=
  cP.step (q := ((pc + 1), L, ((0, z) :: st), (T, M))) hc (by subst hz; rfl) k
theorem s_iushr {v w z : Int} (hc : x_code P m pc = some (.iushr, 1)) (hz : c_bin (fun x y => (x.toUInt32 >>> (y.toUInt32 &&& Int32.toUInt32 31)).toInt32) v w = z) (k : cP P xs Ln d m (pc + 1) L ((0, z) :: st) (T, M) Q) : cP P xs Ln d m pc L ((0, w) :: (0, v) :: st) (T, M) Q :=
  cP.step (q := ((pc + 1), L, ((0, z) :: st), (T, M))) hc (by subst hz; rfl) k
theorem s_ladd {v w z : Int} (hc : x_code P m pc = some (.ladd, 1)) (hz : c_binL (· + ·) v w = z) (k : cP P xs Ln d m (pc + 1) L ((1, z) :: st) (T, M) Q) : cP P xs Ln d m pc L ((1, w) :: (1, v) :: st) (T, M) Q :=
  cP.step (q := ((pc + 1), L, ((1, z) :: st), (T, M))) hc (by subst hz; rfl) k
theorem s_lsub {v w z : Int} (hc : x_code P m pc = some (.lsub, 1)) (hz : c_binL (· - ·) v w = z) (k : cP P xs Ln d m (pc + 1) L ((1, z) :: st) (T, M) Q) : cP P xs Ln d m pc L ((1, w) :: (1, v) :: st) (T, M) Q :=
  cP.step (q := ((pc + 1), L, ((1, z) :: st), (T, M))) hc (by subst hz; rfl) k
theorem s_lmul {v w z : Int} (hc : x_code P m pc = some (.lmul, 1)) (hz : c_binL (· * ·) v w = z) (k : cP P xs Ln d m (pc + 1) L ((1, z) :: st) (T, M) Q) : cP P xs Ln d m pc L ((1, w) :: (1, v) :: st) (T, M) Q :=
  cP.step (q := ((pc + 1), L, ((1, z) :: st), (T, M))) hc (by subst hz; rfl) k
theorem s_land {v w z : Int} (hc : x_code P m pc = some (.land, 1)) (hz : c_binL (· &&& ·) v w = z) (k : cP P xs Ln d m (pc + 1) L ((1, z) :: st) (T, M) Q) : cP P xs Ln d m pc L ((1, w) :: (1, v) :: st) (T, M) Q :=
  cP.step (q := ((pc + 1), L, ((1, z) :: st), (T, M))) hc (by subst hz; rfl) k
theorem s_lor {v w z : Int} (hc : x_code P m pc = some (.lor, 1)) (hz : c_binL (· ||| ·) v w = z) (k : cP P xs Ln d m (pc + 1) L ((1, z) :: st) (T, M) Q) : cP P xs Ln d m pc L ((1, w) :: (1, v) :: st) (T, M) Q :=
  cP.step (q := ((pc + 1), L, ((1, z) :: st), (T, M))) hc (by subst hz; rfl) k
theorem s_lxor {v w z : Int} (hc : x_code P m pc = some (.lxor, 1)) (hz : c_binL (· ^^^ ·) v w = z) (k : cP P xs Ln d m (pc + 1) L ((1, z) :: st) (T, M) Q) : cP P xs Ln d m pc L ((1, w) :: (1, v) :: st) (T, M) Q :=
  cP.step (q := ((pc + 1), L, ((1, z) :: st), (T, M))) hc (by subst hz; rfl) k
theorem s_idiv {v w z : Int} (hc : x_code P m pc = some (.idiv, 1)) (h0 : w ≠ 0) (hz : c_bin (· / ·) v w = z) (k : cP P xs Ln d m (pc + 1) L ((0, z) :: st) (T, M) Q) : cP P xs Ln d m pc L ((0, w) :: (0, v) :: st) (T, M) Q :=
  cP.step (q := ((pc + 1), L, ((0, z) :: st), (T, M))) hc (by subst hz; exact if_pos ⟨rfl, rfl, h0⟩) k
theorem s_irem {v w z : Int} (hc : x_code P m pc = some (.irem, 1)) (h0 : w ≠ 0) (hz : c_bin (fun x y => x - x / y * y) v w = z) (k : cP P xs Ln d m (pc + 1) L ((0, z) :: st) (T, M) Q) : cP P xs Ln d m pc L ((0, w) :: (0, v) :: st) (T, M) Q :=
  cP.step (q := ((pc + 1), L, ((0, z) :: st), (T, M))) hc (by subst hz; exact if_pos ⟨rfl, rfl, h0⟩) k
theorem s_ldiv {v w z : Int} (hc : x_code P m pc = some (.ldiv, 1)) (h0 : w ≠ 0) (hz : c_binL (· / ·) v w = z) (k : cP P xs Ln d m (pc + 1) L ((1, z) :: st) (T, M) Q) : cP P xs Ln d m pc L ((1, w) :: (1, v) :: st) (T, M) Q :=
  cP.step (q := ((pc + 1), L, ((1, z) :: st), (T, M))) hc (by subst hz; exact if_pos ⟨rfl, rfl, h0⟩) k
theorem s_lrem {v w z : Int} (hc : x_code P m pc = some (.lrem, 1)) (h0 : w ≠ 0) (hz : c_binL (fun x y => x - x / y * y) v w = z) (k : cP P xs Ln d m (pc + 1) L ((1, z) :: st) (T, M) Q) : cP P xs Ln d m pc L ((1, w) :: (1, v) :: st) (T, M) Q :=
  cP.step (q := ((pc + 1), L, ((1, z) :: st), (T, M))) hc (by subst hz; exact if_pos ⟨rfl, rfl, h0⟩) k
theorem s_lcmp {v w z : Int} (hc : x_code P m pc = some (.lcmp, 1)) (hz : (lg_cmp (Int64.ofInt v) (Int64.ofInt w)).toInt = z) (k : cP P xs Ln d m (pc + 1) L ((0, z) :: st) (T, M) Q) : cP P xs Ln d m pc L ((1, w) :: (1, v) :: st) (T, M) Q :=
  cP.step (q := ((pc + 1), L, ((0, z) :: st), (T, M))) hc (by subst hz; rfl) k
theorem s_lshl {v w z : Int} (hc : x_code P m pc = some (.lshl, 1)) (hz : (Int64.ofInt v <<< ((Int32.ofInt w).toInt64 &&& 63)).toInt = z) (k : cP P xs Ln d m (pc + 1) L ((1, z) :: st) (T, M) Q) : cP P xs Ln d m pc L ((0, w) :: (1, v) :: st) (T, M) Q :=
  cP.step (q := ((pc + 1), L, ((1, z) :: st), (T, M))) hc (by subst hz; rfl) k
theorem s_lshr {v w z : Int} (hc : x_code P m pc = some (.lshr, 1)) (hz : (Int64.ofInt v >>> ((Int32.ofInt w).toInt64 &&& 63)).toInt = z) (k : cP P xs Ln d m (pc + 1) L ((1, z) :: st) (T, M) Q) : cP P xs Ln d m pc L ((0, w) :: (1, v) :: st) (T, M) Q :=
  cP.step (q := ((pc + 1), L, ((1, z) :: st), (T, M))) hc (by subst hz; rfl) k
theorem s_i2l {v : Int} (hc : x_code P m pc = some (.i2l, 1)) (k : cP P xs Ln d m (pc + 1) L ((1, v) :: st) (T, M) Q) : cP P xs Ln d m pc L ((0, v) :: st) (T, M) Q :=
  cP.step (q := ((pc + 1), L, ((1, v) :: st), (T, M))) hc (rfl) k
theorem s_l2i {v z : Int} (hc : x_code P m pc = some (.l2i, 1)) (hz : (Int64.ofInt v).toInt32.toInt = z) (k : cP P xs Ln d m (pc + 1) L ((0, z) :: st) (T, M) Q) : cP P xs Ln d m pc L ((1, v) :: st) (T, M) Q :=
  cP.step (q := ((pc + 1), L, ((0, z) :: st), (T, M))) hc (by subst hz; rfl) k
theorem s_dup {v : cV} (hc : x_code P m pc = some (.dup, 1)) (hv : c_cat v = 1) (k : cP P xs Ln d m (pc + 1) L (v :: v :: st) (T, M) Q) : cP P xs Ln d m pc L (v :: st) (T, M) Q :=
  cP.step (q := ((pc + 1), L, (v :: v :: st), (T, M))) hc (by exact if_pos hv) k
theorem s_pop {v : cV} (hc : x_code P m pc = some (.pop, 1)) (hv : c_cat v = 1) (k : cP P xs Ln d m (pc + 1) L st (T, M) Q) : cP P xs Ln d m pc L (v :: st) (T, M) Q :=
  cP.step (q := ((pc + 1), L, st, (T, M))) hc (by exact if_pos hv) k
theorem s_dup2 {v w : cV} (hc : x_code P m pc = some (.dup2, 1)) (hv : c_cat v = 1) (hw : c_cat w = 1) (k : cP P xs Ln d m (pc + 1) L (v :: w :: v :: w :: st) (T, M) Q) : cP P xs Ln d m pc L (v :: w :: st) (T, M) Q :=
  cP.step (q := ((pc + 1), L, (v :: w :: v :: w :: st), (T, M))) hc (by exact if_pos ⟨hv, hw⟩) k
theorem s_goto {off : Int} {t : Nat} (hc : x_code P m pc = some (.goto off, 3)) (ht : (pc : Int) + off = (t : Int)) (k : cP P xs Ln d m t L st (T, M) Q) : cP P xs Ln d m pc L st (T, M) Q :=
  cP.step (q := (t, L, st, (T, M))) hc (by show c_goto pc L st (T, M) off = _; unfold c_goto; rw [ht, if_pos (by omega)]; rfl) k
theorem s_icmp_eq {off v w : Int} {t : Nat} (hc : x_code P m pc = some (.if_icmp .eq off, 3)) (ht : (pc : Int) + off = (t : Int)) (k1 : v = w → cP P xs Ln d m t L st (T, M) Q) (k2 : ¬ v = w → cP P xs Ln d m (pc + 3) L st (T, M) Q) : cP P xs Ln d m pc L ((0, w) :: (0, v) :: st) (T, M) Q := by
  have h2 : c_ins P m pc L ((0, w) :: (0, v) :: st) (T, M) xs Ln (.if_icmp .eq off) 3 = some (.inl (if c_cmp .eq v w = true then t else pc + 3, L, st, (T, M))) := by
    show c_br pc L (T, M) .eq (0, v) (0, w) st off = _
    unfold c_br
    rw [ht, if_pos ⟨rfl, rfl, by omega⟩]
    rfl
  refine cP.step hc h2 ?_
  by_cases hq : c_cmp .eq v w = true
  · show cP P xs Ln d m (if c_cmp .eq v w = true then t else pc + 3) L st (T, M) Q
    rw [if_pos hq]
    exact k1 (by simpa [c_cmp] using hq)
  · show cP P xs Ln d m (if c_cmp .eq v w = true then t else pc + 3) L st (T, M) Q
    rw [if_neg hq]
    exact k2 (by simpa [c_cmp] using hq)
theorem s_if_eq {off v : Int} {t : Nat} (hc : x_code P m pc = some (.ifCond .eq off, 3)) (ht : (pc : Int) + off = (t : Int)) (k1 : v = 0 → cP P xs Ln d m t L st (T, M) Q) (k2 : ¬ v = 0 → cP P xs Ln d m (pc + 3) L st (T, M) Q) : cP P xs Ln d m pc L ((0, v) :: st) (T, M) Q := by
  have h2 : c_ins P m pc L ((0, v) :: st) (T, M) xs Ln (.ifCond .eq off) 3 = some (.inl (if c_cmp .eq v 0 = true then t else pc + 3, L, st, (T, M))) := by
    show c_br pc L (T, M) .eq (0, v) (0, 0) st off = _
    unfold c_br
    rw [ht, if_pos ⟨rfl, rfl, by omega⟩]
    rfl
  refine cP.step hc h2 ?_
  by_cases hq : c_cmp .eq v 0 = true
  · show cP P xs Ln d m (if c_cmp .eq v 0 = true then t else pc + 3) L st (T, M) Q
    rw [if_pos hq]
    exact k1 (by simpa [c_cmp] using hq)
  · show cP P xs Ln d m (if c_cmp .eq v 0 = true then t else pc + 3) L st (T, M) Q
    rw [if_neg hq]
    exact k2 (by simpa [c_cmp] using hq)
theorem s_icmp_ne {off v w : Int} {t : Nat} (hc : x_code P m pc = some (.if_icmp .ne off, 3)) (ht : (pc : Int) + off = (t : Int)) (k1 : ¬ v = w → cP P xs Ln d m t L st (T, M) Q) (k2 : v = w → cP P xs Ln d m (pc + 3) L st (T, M) Q) : cP P xs Ln d m pc L ((0, w) :: (0, v) :: st) (T, M) Q := by
  have h2 : c_ins P m pc L ((0, w) :: (0, v) :: st) (T, M) xs Ln (.if_icmp .ne off) 3 = some (.inl (if c_cmp .ne v w = true then t else pc + 3, L, st, (T, M))) := by
    show c_br pc L (T, M) .ne (0, v) (0, w) st off = _
    unfold c_br
    rw [ht, if_pos ⟨rfl, rfl, by omega⟩]
    rfl
  refine cP.step hc h2 ?_
  by_cases hq : c_cmp .ne v w = true
  · show cP P xs Ln d m (if c_cmp .ne v w = true then t else pc + 3) L st (T, M) Q
    rw [if_pos hq]
    exact k1 (by simpa [c_cmp] using hq)
  · show cP P xs Ln d m (if c_cmp .ne v w = true then t else pc + 3) L st (T, M) Q
    rw [if_neg hq]
    exact k2 (by simpa [c_cmp] using hq)
theorem s_if_ne {off v : Int} {t : Nat} (hc : x_code P m pc = some (.ifCond .ne off, 3)) (ht : (pc : Int) + off = (t : Int)) (k1 : ¬ v = 0 → cP P xs Ln d m t L st (T, M) Q) (k2 : v = 0 → cP P xs Ln d m (pc + 3) L st (T, M) Q) : cP P xs Ln d m pc L ((0, v) :: st) (T, M) Q := by
  have h2 : c_ins P m pc L ((0, v) :: st) (T, M) xs Ln (.ifCond .ne off) 3 = some (.inl (if c_cmp .ne v 0 = true then t else pc + 3, L, st, (T, M))) := by
    show c_br pc L (T, M) .ne (0, v) (0, 0) st off = _
    unfold c_br
    rw [ht, if_pos ⟨rfl, rfl, by omega⟩]
    rfl
  refine cP.step hc h2 ?_
  by_cases hq : c_cmp .ne v 0 = true
  · show cP P xs Ln d m (if c_cmp .ne v 0 = true then t else pc + 3) L st (T, M) Q
    rw [if_pos hq]
    exact k1 (by simpa [c_cmp] using hq)
  · show cP P xs Ln d m (if c_cmp .ne v 0 = true then t else pc + 3) L st (T, M) Q
    rw [if_neg hq]
    exact k2 (by simpa [c_cmp] using hq)
theorem s_icmp_lt {off v w : Int} {t : Nat} (hc : x_code P m pc = some (.if_icmp .lt off, 3)) (ht : (pc : Int) + off = (t : Int)) (k1 : v < w → cP P xs Ln d m t L st (T, M) Q) (k2 : ¬ v < w → cP P xs Ln d m (pc + 3) L st (T, M) Q) : cP P xs Ln d m pc L ((0, w) :: (0, v) :: st) (T, M) Q := by
  have h2 : c_ins P m pc L ((0, w) :: (0, v) :: st) (T, M) xs Ln (.if_icmp .lt off) 3 = some (.inl (if c_cmp .lt v w = true then t else pc + 3, L, st, (T, M))) := by
    show c_br pc L (T, M) .lt (0, v) (0, w) st off = _
    unfold c_br
    rw [ht, if_pos ⟨rfl, rfl, by omega⟩]
    rfl
  refine cP.step hc h2 ?_
  by_cases hq : c_cmp .lt v w = true
  · show cP P xs Ln d m (if c_cmp .lt v w = true then t else pc + 3) L st (T, M) Q
    rw [if_pos hq]
    exact k1 (by simpa [c_cmp] using hq)
  · show cP P xs Ln d m (if c_cmp .lt v w = true then t else pc + 3) L st (T, M) Q
    rw [if_neg hq]
    exact k2 (by simpa [c_cmp] using hq)
theorem s_if_lt {off v : Int} {t : Nat} (hc : x_code P m pc = some (.ifCond .lt off, 3)) (ht : (pc : Int) + off = (t : Int)) (k1 : v < 0 → cP P xs Ln d m t L st (T, M) Q) (k2 : ¬ v < 0 → cP P xs Ln d m (pc + 3) L st (T, M) Q) : cP P xs Ln d m pc L ((0, v) :: st) (T, M) Q := by
  have h2 : c_ins P m pc L ((0, v) :: st) (T, M) xs Ln (.ifCond .lt off) 3 = some (.inl (if c_cmp .lt v 0 = true then t else pc + 3, L, st, (T, M))) := by
    show c_br pc L (T, M) .lt (0, v) (0, 0) st off = _
    unfold c_br
    rw [ht, if_pos ⟨rfl, rfl, by omega⟩]
    rfl
  refine cP.step hc h2 ?_
  by_cases hq : c_cmp .lt v 0 = true
  · show cP P xs Ln d m (if c_cmp .lt v 0 = true then t else pc + 3) L st (T, M) Q
    rw [if_pos hq]
    exact k1 (by simpa [c_cmp] using hq)
  · show cP P xs Ln d m (if c_cmp .lt v 0 = true then t else pc + 3) L st (T, M) Q
    rw [if_neg hq]
    exact k2 (by simpa [c_cmp] using hq)
theorem s_icmp_ge {off v w : Int} {t : Nat} (hc : x_code P m pc = some (.if_icmp .ge off, 3)) (ht : (pc : Int) + off = (t : Int)) (k1 : ¬ v < w → cP P xs Ln d m t L st (T, M) Q) (k2 : v < w → cP P xs Ln d m (pc + 3) L st (T, M) Q) : cP P xs Ln d m pc L ((0, w) :: (0, v) :: st) (T, M) Q := by
  have h2 : c_ins P m pc L ((0, w) :: (0, v) :: st) (T, M) xs Ln (.if_icmp .ge off) 3 = some (.inl (if c_cmp .ge v w = true then t else pc + 3, L, st, (T, M))) := by
    show c_br pc L (T, M) .ge (0, v) (0, w) st off = _
    unfold c_br
    rw [ht, if_pos ⟨rfl, rfl, by omega⟩]
    rfl
  refine cP.step hc h2 ?_
  by_cases hq : c_cmp .ge v w = true
  · show cP P xs Ln d m (if c_cmp .ge v w = true then t else pc + 3) L st (T, M) Q
    rw [if_pos hq]
    exact k1 (by simpa [c_cmp] using hq)
  · show cP P xs Ln d m (if c_cmp .ge v w = true then t else pc + 3) L st (T, M) Q
    rw [if_neg hq]
    exact k2 (by simpa [c_cmp] using hq)
theorem s_if_ge {off v : Int} {t : Nat} (hc : x_code P m pc = some (.ifCond .ge off, 3)) (ht : (pc : Int) + off = (t : Int)) (k1 : ¬ v < 0 → cP P xs Ln d m t L st (T, M) Q) (k2 : v < 0 → cP P xs Ln d m (pc + 3) L st (T, M) Q) : cP P xs Ln d m pc L ((0, v) :: st) (T, M) Q := by
  have h2 : c_ins P m pc L ((0, v) :: st) (T, M) xs Ln (.ifCond .ge off) 3 = some (.inl (if c_cmp .ge v 0 = true then t else pc + 3, L, st, (T, M))) := by
    show c_br pc L (T, M) .ge (0, v) (0, 0) st off = _
    unfold c_br
    rw [ht, if_pos ⟨rfl, rfl, by omega⟩]
    rfl
  refine cP.step hc h2 ?_
  by_cases hq : c_cmp .ge v 0 = true
  · show cP P xs Ln d m (if c_cmp .ge v 0 = true then t else pc + 3) L st (T, M) Q
    rw [if_pos hq]
    exact k1 (by simpa [c_cmp] using hq)
  · show cP P xs Ln d m (if c_cmp .ge v 0 = true then t else pc + 3) L st (T, M) Q
    rw [if_neg hq]
    exact k2 (by simpa [c_cmp] using hq)
theorem s_icmp_gt {off v w : Int} {t : Nat} (hc : x_code P m pc = some (.if_icmp .gt off, 3)) (ht : (pc : Int) + off = (t : Int)) (k1 : w < v → cP P xs Ln d m t L st (T, M) Q) (k2 : ¬ w < v → cP P xs Ln d m (pc + 3) L st (T, M) Q) : cP P xs Ln d m pc L ((0, w) :: (0, v) :: st) (T, M) Q := by
  have h2 : c_ins P m pc L ((0, w) :: (0, v) :: st) (T, M) xs Ln (.if_icmp .gt off) 3 = some (.inl (if c_cmp .gt v w = true then t else pc + 3, L, st, (T, M))) := by
    show c_br pc L (T, M) .gt (0, v) (0, w) st off = _
    unfold c_br
    rw [ht, if_pos ⟨rfl, rfl, by omega⟩]
    rfl
  refine cP.step hc h2 ?_
  by_cases hq : c_cmp .gt v w = true
  · show cP P xs Ln d m (if c_cmp .gt v w = true then t else pc + 3) L st (T, M) Q
    rw [if_pos hq]
    exact k1 (by simpa [c_cmp] using hq)
  · show cP P xs Ln d m (if c_cmp .gt v w = true then t else pc + 3) L st (T, M) Q
    rw [if_neg hq]
    exact k2 (by simpa [c_cmp] using hq)
theorem s_if_gt {off v : Int} {t : Nat} (hc : x_code P m pc = some (.ifCond .gt off, 3)) (ht : (pc : Int) + off = (t : Int)) (k1 : 0 < v → cP P xs Ln d m t L st (T, M) Q) (k2 : ¬ 0 < v → cP P xs Ln d m (pc + 3) L st (T, M) Q) : cP P xs Ln d m pc L ((0, v) :: st) (T, M) Q := by
  have h2 : c_ins P m pc L ((0, v) :: st) (T, M) xs Ln (.ifCond .gt off) 3 = some (.inl (if c_cmp .gt v 0 = true then t else pc + 3, L, st, (T, M))) := by
    show c_br pc L (T, M) .gt (0, v) (0, 0) st off = _
    unfold c_br
    rw [ht, if_pos ⟨rfl, rfl, by omega⟩]
    rfl
  refine cP.step hc h2 ?_
  by_cases hq : c_cmp .gt v 0 = true
  · show cP P xs Ln d m (if c_cmp .gt v 0 = true then t else pc + 3) L st (T, M) Q
    rw [if_pos hq]
    exact k1 (by simpa [c_cmp] using hq)
  · show cP P xs Ln d m (if c_cmp .gt v 0 = true then t else pc + 3) L st (T, M) Q
    rw [if_neg hq]
    exact k2 (by simpa [c_cmp] using hq)
theorem s_icmp_le {off v w : Int} {t : Nat} (hc : x_code P m pc = some (.if_icmp .le off, 3)) (ht : (pc : Int) + off = (t : Int)) (k1 : ¬ w < v → cP P xs Ln d m t L st (T, M) Q) (k2 : w < v → cP P xs Ln d m (pc + 3) L st (T, M) Q) : cP P xs Ln d m pc L ((0, w) :: (0, v) :: st) (T, M) Q := by
  have h2 : c_ins P m pc L ((0, w) :: (0, v) :: st) (T, M) xs Ln (.if_icmp .le off) 3 = some (.inl (if c_cmp .le v w = true then t else pc + 3, L, st, (T, M))) := by
    show c_br pc L (T, M) .le (0, v) (0, w) st off = _
    unfold c_br
    rw [ht, if_pos ⟨rfl, rfl, by omega⟩]
    rfl
  refine cP.step hc h2 ?_
  by_cases hq : c_cmp .le v w = true
  · show cP P xs Ln d m (if c_cmp .le v w = true then t else pc + 3) L st (T, M) Q
    rw [if_pos hq]
    exact k1 (by simpa [c_cmp] using hq)
  · show cP P xs Ln d m (if c_cmp .le v w = true then t else pc + 3) L st (T, M) Q
    rw [if_neg hq]
    exact k2 (by simpa [c_cmp] using hq)
theorem s_if_le {off v : Int} {t : Nat} (hc : x_code P m pc = some (.ifCond .le off, 3)) (ht : (pc : Int) + off = (t : Int)) (k1 : ¬ 0 < v → cP P xs Ln d m t L st (T, M) Q) (k2 : 0 < v → cP P xs Ln d m (pc + 3) L st (T, M) Q) : cP P xs Ln d m pc L ((0, v) :: st) (T, M) Q := by
  have h2 : c_ins P m pc L ((0, v) :: st) (T, M) xs Ln (.ifCond .le off) 3 = some (.inl (if c_cmp .le v 0 = true then t else pc + 3, L, st, (T, M))) := by
    show c_br pc L (T, M) .le (0, v) (0, 0) st off = _
    unfold c_br
    rw [ht, if_pos ⟨rfl, rfl, by omega⟩]
    rfl
  refine cP.step hc h2 ?_
  by_cases hq : c_cmp .le v 0 = true
  · show cP P xs Ln d m (if c_cmp .le v 0 = true then t else pc + 3) L st (T, M) Q
    rw [if_pos hq]
    exact k1 (by simpa [c_cmp] using hq)
  · show cP P xs Ln d m (if c_cmp .le v 0 = true then t else pc + 3) L st (T, M) Q
    rw [if_neg hq]
    exact k2 (by simpa [c_cmp] using hq)
theorem s_getf {idx ci : Nat} {k f : Nat} {kd : Nat} {v : cV} (hc : x_code P m pc = some (.getfield idx, 3)) (hp : x_pool P m idx = (1, ci, (f : Int))) (hT : T[k]? = some (.inr ci)) (hk : (x_cls P ci)[f]? = some kd) (hv : c_fld kd (M k f) = v) (kk : cP P xs Ln d m (pc + 3) L (v :: st) (T, M) Q) : cP P xs Ln d m pc L ((3, (k : Int)) :: st) (T, M) Q := by
  refine cP.step hc (q := (pc + 3, L, v :: st, (T, M))) ?_ kk
  show c_getf P m pc L ((3, (k : Int)) :: st) (T, M) idx = _
  unfold c_getf
  simp only [hp, Int.toNat_natCast, hT, hk, hv, if_true, c_go]
theorem s_putf {idx ci : Nat} {k f : Nat} {kd : Nat} {v : cV} {M' : cM} (hc : x_code P m pc = some (.putfield idx, 3)) (hp : x_pool P m idx = (1, ci, (f : Int))) (hT : T[k]? = some (.inr ci)) (hk : (x_cls P ci)[f]? = some kd) (hf : c_fit kd v = true) (hfin : kd < 10 ∨ (x_nm P m).name = "<init>" ∧ x_mci P m = ci) (hM : c_up M k f (c_enc v) = M') (kk : cP P xs Ln d m (pc + 3) L st (T, M') Q) : cP P xs Ln d m pc L (v :: (3, (k : Int)) :: st) (T, M) Q := by
  subst hM
  refine cP.step hc (q := (pc + 3, L, st, (T, c_up M k f (c_enc v)))) ?_ kk
  show c_putf P m pc L (v :: (3, (k : Int)) :: st) (T, M) idx = _
  unfold c_putf
  simp only [hp, Int.toNat_natCast, hT, hk, if_true]
  rw [if_pos ⟨hf, hfin⟩]
theorem s_iald {k n : Nat} {i v : Int} (hc : x_code P m pc = some (.iaload, 1)) (hT : T[k]? = some (.inl (0, n))) (h0 : 0 ≤ i ∧ i < (n : Int)) (hv : M k i.toNat = v) (kk : cP P xs Ln d m (pc + 1) L ((0, v) :: st) (T, M) Q) : cP P xs Ln d m pc L ((0, i) :: (3, (k : Int)) :: st) (T, M) Q := by
  subst hv
  refine cP.step hc (q := (pc + 1, L, (0, M k i.toNat) :: st, (T, M))) ?_ kk
  show (match T[k]? with
    | some (.inl a) => if (0 : Nat) = 0 ∧ a.1 = 0 ∧ 0 ≤ i ∧ i < (a.2 : Int) then c_go pc (T, M) 1 L ((0, M k i.toNat) :: st) else none
    | _ => none) = _
  rw [hT]
  exact if_pos ⟨rfl, rfl, h0.1, h0.2⟩
theorem s_iast {k n : Nat} {i v : Int} {M' : cM} (hc : x_code P m pc = some (.iastore, 1)) (hT : T[k]? = some (.inl (0, n))) (h0 : 0 ≤ i ∧ i < (n : Int)) (hM : c_up M k i.toNat v = M') (kk : cP P xs Ln d m (pc + 1) L st (T, M') Q) : cP P xs Ln d m pc L ((0, v) :: (0, i) :: (3, (k : Int)) :: st) (T, M) Q := by
  subst hM
  refine cP.step hc (q := (pc + 1, L, st, (T, c_up M k i.toNat v))) ?_ kk
  show (match T[k]? with
    | some (.inl a) => if (0 : Nat) = 0 ∧ (0 : Nat) = 0 ∧ a.1 = 0 ∧ 0 ≤ i ∧ i < (a.2 : Int) ∧ ((0 : Nat) = 2 → c_fit 3 (0, v) = true) then (some (.inl (pc + 1, L, st, (T, c_up M k i.toNat v))) : Option cO) else none
    | _ => none) = _
  rw [hT]
  exact if_pos ⟨rfl, rfl, rfl, h0.1, h0.2, fun z => absurd z (by decide)⟩
theorem s_alen {k n ty : Nat} (hc : x_code P m pc = some (.arraylength, 1)) (hT : T[k]? = some (.inl (ty, n))) (h3 : ty < 3 ∧ n < 2147483648) (kk : cP P xs Ln d m (pc + 1) L ((0, (n : Int)) :: st) (T, M) Q) : cP P xs Ln d m pc L ((3, (k : Int)) :: st) (T, M) Q := by
  refine cP.step hc (q := (pc + 1, L, (0, (n : Int)) :: st, (T, M))) ?_ kk
  show (match T[k]? with
    | some (.inl a) => if a.1 < 3 ∧ a.2 < 2147483648 then c_go pc (T, M) 1 L ((0, (a.2 : Int)) :: st) else none
    | _ => none) = _
  rw [hT]
  exact if_pos h3
theorem s_iret {v : Int} (hc : x_code P m pc = some (.ireturn, 1)) (hk : x_retk P m = 1 ∨ x_retk P m = 2 ∧ (v = 0 ∨ v = 1)) (hQ : Q (some (0, v)) (T, M)) : cP P xs Ln d m pc L [(0, v)] (T, M) Q := by
  refine cP.ret hc ?_ hQ
  refine if_pos ⟨rfl, ?_⟩
  rcases hk with h | ⟨h, h2⟩
  · exact Or.inl ⟨rfl, h⟩
  · exact Or.inr (Or.inl ⟨rfl, h, by simpa [c_fit] using h2⟩)
theorem s_vret (hc : x_code P m pc = some (.return_, 1)) (hk : x_retk P m = 0) (hQ : Q none (T, M)) : cP P xs Ln d m pc L [] (T, M) Q := by
  refine cP.ret hc ?_ hQ
  exact if_pos hk
/-- a call of an object's method: as, the arguments as they lie on the stack (the last first) -/
theorem s_callV {idx j n k ci : Nat} {as rest : List cV} {Q1 : Option cV → cH → Prop} (hc : x_code P m pc = some (.invokevirtual idx, 3)) (hp : x_pool P m idx = (2, j, (n : Int))) (hn : as.length = n) (hT : T[k]? = some (.inr ci)) (hci : ci = x_mci P j) (hm : x_maxL P j ≤ 60 ∧ (((3, (k : Int)) :: as.reverse).map c_cat).sum ≤ x_maxL P j ∧ (rest.map c_cat).sum ≤ 8)
    (hR : cC P xs Ln d j ((3, (k : Int)) :: as.reverse) (T, M) Q1) (kk : ∀ (r1 : Option cV) (T1 : List cK) (M1 : cM), Q1 r1 (T1, M1) → cP P xs Ln (d + 1) m (pc + 3) L (r1.toList ++ rest) (T1, M1) Q) : cP P xs Ln (d + 1) m pc L (as ++ (3, (k : Int)) :: rest) (T, M) Q := by
  subst hn
  refine cP.call hc (j := j) (as := (3, (k : Int)) :: as.reverse) (rest := rest) ?_ hR (fun r1 h1 => kk r1 h1.1 h1.2)
  show c_if true (c_invV P m (as ++ (3, (k : Int)) :: rest) (T, M) idx) = _
  simp only [c_if, cond_true, c_invV, hp, Int.toNat_natCast, List.drop_left', List.take_left', hT]
  rw [if_pos ⟨hci, trivial⟩]
  unfold c_call
  exact if_pos hm
theorem s_callS {idx j n : Nat} {as rest : List cV} {Q1 : Option cV → cH → Prop} (hc : x_code P m pc = some (.invokestatic idx, 3)) (hp : x_pool P m idx = (6, j, (n : Int))) (hn : as.length = n) (hm : x_maxL P j ≤ 60 ∧ (as.reverse.map c_cat).sum ≤ x_maxL P j ∧ (rest.map c_cat).sum ≤ 8)
    (hR : cC P xs Ln d j as.reverse (T, M) Q1) (kk : ∀ (r1 : Option cV) (T1 : List cK) (M1 : cM), Q1 r1 (T1, M1) → cP P xs Ln (d + 1) m (pc + 3) L (r1.toList ++ rest) (T1, M1) Q) : cP P xs Ln (d + 1) m pc L (as ++ rest) (T, M) Q := by
  subst hn
  refine cP.call hc (j := j) (as := as.reverse) (rest := rest) ?_ hR (fun r1 h1 => kk r1 h1.1 h1.2)
  show c_if true (c_invS P m pc L (as ++ rest) (T, M) idx) = _
  simp only [c_if, cond_true, c_invS, hp, Int.toNat_natCast, List.drop_left', List.take_left']
  rw [if_pos trivial]
  unfold c_call
  exact if_pos hm
end SR
