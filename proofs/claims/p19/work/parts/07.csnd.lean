/-! the pure machine is sound: the induction over its steps -/
set_option maxHeartbeats 4000000 in
theorem c_ins_ext {P : xP} {m pc : Nat} {L : List (Nat × cV)} {st : List cV} {h : cH} {xs : Nat → Int} {Ln : Nat} {i : Instr} {len : Nat} {q : cN} (e : c_ins P m pc L st h xs Ln i len = some (.inl q)) : x_ext h.1 q.2.2.2.1 := by
  cases i
  case iconst z =>
    obtain ⟨-, e⟩ := c_if_ok (show c_if (len == 1) (c_go pc h 1 L ((0, (Int32.ofInt z).toInt) :: st)) = some (.inl q) from e)
    try unfold c_go at e
    (repeat' split at e) <;> first | (cases e; exact x_ext.rf _) | (cases e; exact x_ext.app _ _) | cases e
  case bipush z =>
    obtain ⟨-, e⟩ := c_if_ok (show c_if (len == 2) (c_go pc h 2 L ((0, (Int8.ofInt z).toInt32.toInt) :: st)) = some (.inl q) from e)
    try unfold c_go at e
    (repeat' split at e) <;> first | (cases e; exact x_ext.rf _) | (cases e; exact x_ext.app _ _) | cases e
  case sipush z =>
    obtain ⟨-, e⟩ := c_if_ok (show c_if (len == 3) (c_go pc h 3 L ((0, (Int16.ofInt z).toInt32.toInt) :: st)) = some (.inl q) from e)
    try unfold c_go at e
    (repeat' split at e) <;> first | (cases e; exact x_ext.rf _) | (cases e; exact x_ext.app _ _) | cases e
  case lconst z =>
    obtain ⟨-, e⟩ := c_if_ok (show c_if (len == 1) (c_go pc h 1 L ((1, (Int64.ofNat (z : Nat)).toInt) :: st)) = some (.inl q) from e)
    try unfold c_go at e
    (repeat' split at e) <;> first | (cases e; exact x_ext.rf _) | (cases e; exact x_ext.app _ _) | cases e
  case ldc idx =>
    obtain ⟨-, e⟩ := c_if_ok (show c_if (len == 2) (match (generalizing := false) x_pool P m idx with | (7, _, c) => c_go pc h 2 L ((0, c) :: st) | _ => none) = some (.inl q) from e)
    try unfold c_go at e
    (repeat' split at e) <;> first | (cases e; exact x_ext.rf _) | (cases e; exact x_ext.app _ _) | cases e
  case ldc_w idx =>
    obtain ⟨-, e⟩ := c_if_ok (show c_if (len == 3) (match (generalizing := false) x_pool P m idx with | (7, _, c) => c_go pc h 3 L ((0, c) :: st) | _ => none) = some (.inl q) from e)
    try unfold c_go at e
    (repeat' split at e) <;> first | (cases e; exact x_ext.rf _) | (cases e; exact x_ext.app _ _) | cases e
  case ldc2_w idx =>
    obtain ⟨-, e⟩ := c_if_ok (show c_if (len == 3) (match (generalizing := false) x_pool P m idx with | (8, _, c) => c_go pc h 3 L ((1, c) :: st) | _ => none) = some (.inl q) from e)
    try unfold c_go at e
    (repeat' split at e) <;> first | (cases e; exact x_ext.rf _) | (cases e; exact x_ext.app _ _) | cases e
  case iload z =>
    obtain ⟨-, e⟩ := c_if_ok (show c_if (len == 2) (c_ld pc L st h 2 0 z) = some (.inl q) from e)
    try unfold c_ld at e
    try unfold c_go at e
    (repeat' split at e) <;> first | (cases e; exact x_ext.rf _) | (cases e; exact x_ext.app _ _) | cases e
  case iload_n z =>
    obtain ⟨-, e⟩ := c_if_ok (show c_if (len == 1) (c_ld pc L st h 1 0 (z : Nat)) = some (.inl q) from e)
    try unfold c_ld at e
    try unfold c_go at e
    (repeat' split at e) <;> first | (cases e; exact x_ext.rf _) | (cases e; exact x_ext.app _ _) | cases e
  case lload z =>
    obtain ⟨-, e⟩ := c_if_ok (show c_if (len == 2) (c_ld pc L st h 2 1 z) = some (.inl q) from e)
    try unfold c_ld at e
    try unfold c_go at e
    (repeat' split at e) <;> first | (cases e; exact x_ext.rf _) | (cases e; exact x_ext.app _ _) | cases e
  case lload_n z =>
    obtain ⟨-, e⟩ := c_if_ok (show c_if (len == 1) (c_ld pc L st h 1 1 (z : Nat)) = some (.inl q) from e)
    try unfold c_ld at e
    try unfold c_go at e
    (repeat' split at e) <;> first | (cases e; exact x_ext.rf _) | (cases e; exact x_ext.app _ _) | cases e
  case aload z =>
    obtain ⟨-, e⟩ := c_if_ok (show c_if (len == 2) (c_lda pc L st h 2 z) = some (.inl q) from e)
    try unfold c_lda at e
    try unfold c_go at e
    (repeat' split at e) <;> first | (cases e; exact x_ext.rf _) | (cases e; exact x_ext.app _ _) | cases e
  case aload_n z =>
    obtain ⟨-, e⟩ := c_if_ok (show c_if (len == 1) (c_lda pc L st h 1 (z : Nat)) = some (.inl q) from e)
    try unfold c_lda at e
    try unfold c_go at e
    (repeat' split at e) <;> first | (cases e; exact x_ext.rf _) | (cases e; exact x_ext.app _ _) | cases e
  case istore z =>
    obtain ⟨-, e⟩ := c_if_ok (show c_if (len == 2) (c_st P m pc L st h 2 0 z) = some (.inl q) from e)
    try unfold c_st at e
    try unfold c_go at e
    (repeat' split at e) <;> first | (cases e; exact x_ext.rf _) | (cases e; exact x_ext.app _ _) | cases e
  case istore_n z =>
    obtain ⟨-, e⟩ := c_if_ok (show c_if (len == 1) (c_st P m pc L st h 1 0 (z : Nat)) = some (.inl q) from e)
    try unfold c_st at e
    try unfold c_go at e
    (repeat' split at e) <;> first | (cases e; exact x_ext.rf _) | (cases e; exact x_ext.app _ _) | cases e
  case astore z =>
    obtain ⟨-, e⟩ := c_if_ok (show c_if (len == 2) (c_st P m pc L st h 2 3 z) = some (.inl q) from e)
    try unfold c_st at e
    try unfold c_go at e
    (repeat' split at e) <;> first | (cases e; exact x_ext.rf _) | (cases e; exact x_ext.app _ _) | cases e
  case astore_n z =>
    obtain ⟨-, e⟩ := c_if_ok (show c_if (len == 1) (c_st P m pc L st h 1 3 (z : Nat)) = some (.inl q) from e)
    try unfold c_st at e
    try unfold c_go at e
    (repeat' split at e) <;> first | (cases e; exact x_ext.rf _) | (cases e; exact x_ext.app _ _) | cases e
  case lstore z =>
    obtain ⟨-, e⟩ := c_if_ok (show c_if (len == 2) (c_stL P m pc L st h 2 z) = some (.inl q) from e)
    try unfold c_stL at e
    try unfold c_go at e
    (repeat' split at e) <;> first | (cases e; exact x_ext.rf _) | (cases e; exact x_ext.app _ _) | cases e
  case lstore_n z =>
    obtain ⟨-, e⟩ := c_if_ok (show c_if (len == 1) (c_stL P m pc L st h 1 (z : Nat)) = some (.inl q) from e)
    try unfold c_stL at e
    try unfold c_go at e
    (repeat' split at e) <;> first | (cases e; exact x_ext.rf _) | (cases e; exact x_ext.app _ _) | cases e
  case iinc z zc =>
    obtain ⟨-, e⟩ := c_if_ok (show c_if (len == 3) (c_iinc P m pc L st h z zc) = some (.inl q) from e)
    try unfold c_iinc at e
    try unfold c_go at e
    (repeat' split at e) <;> first | (cases e; exact x_ext.rf _) | (cases e; exact x_ext.app _ _) | cases e
  case iadd =>
    obtain ⟨-, e⟩ := c_if_ok (show c_if (len == 1) (c_op2 pc L st h (c_bin (· + ·))) = some (.inl q) from e)
    try unfold c_op2 at e
    try unfold c_go at e
    (repeat' split at e) <;> first | (cases e; exact x_ext.rf _) | (cases e; exact x_ext.app _ _) | cases e
  case isub =>
    obtain ⟨-, e⟩ := c_if_ok (show c_if (len == 1) (c_op2 pc L st h (c_bin (· - ·))) = some (.inl q) from e)
    try unfold c_op2 at e
    try unfold c_go at e
    (repeat' split at e) <;> first | (cases e; exact x_ext.rf _) | (cases e; exact x_ext.app _ _) | cases e
  case imul =>
    obtain ⟨-, e⟩ := c_if_ok (show c_if (len == 1) (c_op2 pc L st h (c_bin (· * ·))) = some (.inl q) from e)
    try unfold c_op2 at e
    try unfold c_go at e
    (repeat' split at e) <;> first | (cases e; exact x_ext.rf _) | (cases e; exact x_ext.app _ _) | cases e
  case iand =>
    obtain ⟨-, e⟩ := c_if_ok (show c_if (len == 1) (c_op2 pc L st h (c_bin (· &&& ·))) = some (.inl q) from e)
    try unfold c_op2 at e
    try unfold c_go at e
    (repeat' split at e) <;> first | (cases e; exact x_ext.rf _) | (cases e; exact x_ext.app _ _) | cases e
  case ior =>
    obtain ⟨-, e⟩ := c_if_ok (show c_if (len == 1) (c_op2 pc L st h (c_bin (· ||| ·))) = some (.inl q) from e)
    try unfold c_op2 at e
    try unfold c_go at e
    (repeat' split at e) <;> first | (cases e; exact x_ext.rf _) | (cases e; exact x_ext.app _ _) | cases e
  case ixor =>
    obtain ⟨-, e⟩ := c_if_ok (show c_if (len == 1) (c_op2 pc L st h (c_bin (· ^^^ ·))) = some (.inl q) from e)
    try unfold c_op2 at e
    try unfold c_go at e
    (repeat' split at e) <;> first | (cases e; exact x_ext.rf _) | (cases e; exact x_ext.app _ _) | cases e
  case ishl =>
    obtain ⟨-, e⟩ := c_if_ok (show c_if (len == 1) (c_op2 pc L st h (c_bin (fun x y => x <<< (y &&& 31)))) = some (.inl q) from e)
    try unfold c_op2 at e
    try unfold c_go at e
    (repeat' split at e) <;> first | (cases e; exact x_ext.rf _) | (cases e; exact x_ext.app _ _) | cases e
  case ishr =>
    obtain ⟨-, e⟩ := c_if_ok (show c_if (len == 1) (c_op2 pc L st h (c_bin (fun x y => x >>> (y &&& 31)))) = some (.inl q) from e)
    try unfold c_op2 at e
    try unfold c_go at e
    (repeat' split at e) <;> first | (cases e; exact x_ext.rf _) | (cases e; exact x_ext.app _ _) | cases e
  case iushr =>
    obtain ⟨-, e⟩ := c_if_ok (show c_if (len == 1) (c_op2 pc L st h (c_bin (fun x y => (x.toUInt32 >>> (y.toUInt32 &&& Int32.toUInt32 31)).toInt32))) = some (.inl q) from e)
    try unfold c_op2 at e
    try unfold c_go at e
    (repeat' split at e) <;> first | (cases e; exact x_ext.rf _) | (cases e; exact x_ext.app _ _) | cases e
  case ladd =>
    obtain ⟨-, e⟩ := c_if_ok (show c_if (len == 1) (c_opL pc L st h (c_binL (· + ·))) = some (.inl q) from e)
    try unfold c_opL at e
    try unfold c_go at e
    (repeat' split at e) <;> first | (cases e; exact x_ext.rf _) | (cases e; exact x_ext.app _ _) | cases e
  case lsub =>
    obtain ⟨-, e⟩ := c_if_ok (show c_if (len == 1) (c_opL pc L st h (c_binL (· - ·))) = some (.inl q) from e)
    try unfold c_opL at e
    try unfold c_go at e
    (repeat' split at e) <;> first | (cases e; exact x_ext.rf _) | (cases e; exact x_ext.app _ _) | cases e
  case lmul =>
    obtain ⟨-, e⟩ := c_if_ok (show c_if (len == 1) (c_opL pc L st h (c_binL (· * ·))) = some (.inl q) from e)
    try unfold c_opL at e
    try unfold c_go at e
    (repeat' split at e) <;> first | (cases e; exact x_ext.rf _) | (cases e; exact x_ext.app _ _) | cases e
  case land =>
    obtain ⟨-, e⟩ := c_if_ok (show c_if (len == 1) (c_opL pc L st h (c_binL (· &&& ·))) = some (.inl q) from e)
    try unfold c_opL at e
    try unfold c_go at e
    (repeat' split at e) <;> first | (cases e; exact x_ext.rf _) | (cases e; exact x_ext.app _ _) | cases e
  case lor =>
    obtain ⟨-, e⟩ := c_if_ok (show c_if (len == 1) (c_opL pc L st h (c_binL (· ||| ·))) = some (.inl q) from e)
    try unfold c_opL at e
    try unfold c_go at e
    (repeat' split at e) <;> first | (cases e; exact x_ext.rf _) | (cases e; exact x_ext.app _ _) | cases e
  case lxor =>
    obtain ⟨-, e⟩ := c_if_ok (show c_if (len == 1) (c_opL pc L st h (c_binL (· ^^^ ·))) = some (.inl q) from e)
    try unfold c_opL at e
    try unfold c_go at e
    (repeat' split at e) <;> first | (cases e; exact x_ext.rf _) | (cases e; exact x_ext.app _ _) | cases e
  case idiv =>
    obtain ⟨-, e⟩ := c_if_ok (show c_if (len == 1) (c_div pc L st h (c_bin (· / ·))) = some (.inl q) from e)
    try unfold c_div at e
    try unfold c_go at e
    (repeat' split at e) <;> first | (cases e; exact x_ext.rf _) | (cases e; exact x_ext.app _ _) | cases e
  case irem =>
    obtain ⟨-, e⟩ := c_if_ok (show c_if (len == 1) (c_div pc L st h (c_bin (fun x y => x - x / y * y))) = some (.inl q) from e)
    try unfold c_div at e
    try unfold c_go at e
    (repeat' split at e) <;> first | (cases e; exact x_ext.rf _) | (cases e; exact x_ext.app _ _) | cases e
  case ldiv =>
    obtain ⟨-, e⟩ := c_if_ok (show c_if (len == 1) (c_divL pc L st h (c_binL (· / ·))) = some (.inl q) from e)
    try unfold c_divL at e
    try unfold c_go at e
    (repeat' split at e) <;> first | (cases e; exact x_ext.rf _) | (cases e; exact x_ext.app _ _) | cases e
  case lrem =>
    obtain ⟨-, e⟩ := c_if_ok (show c_if (len == 1) (c_divL pc L st h (c_binL (fun x y => x - x / y * y))) = some (.inl q) from e)
    try unfold c_divL at e
    try unfold c_go at e
    (repeat' split at e) <;> first | (cases e; exact x_ext.rf _) | (cases e; exact x_ext.app _ _) | cases e
  case lcmp =>
    obtain ⟨-, e⟩ := c_if_ok (show c_if (len == 1) (c_lcmp pc L st h) = some (.inl q) from e)
    try unfold c_lcmp at e
    try unfold c_go at e
    (repeat' split at e) <;> first | (cases e; exact x_ext.rf _) | (cases e; exact x_ext.app _ _) | cases e
  case lshl =>
    obtain ⟨-, e⟩ := c_if_ok (show c_if (len == 1) (c_opS pc L st h (fun a b => (Int64.ofInt a <<< ((Int32.ofInt b).toInt64 &&& 63)).toInt)) = some (.inl q) from e)
    try unfold c_opS at e
    try unfold c_go at e
    (repeat' split at e) <;> first | (cases e; exact x_ext.rf _) | (cases e; exact x_ext.app _ _) | cases e
  case lshr =>
    obtain ⟨-, e⟩ := c_if_ok (show c_if (len == 1) (c_opS pc L st h (fun a b => (Int64.ofInt a >>> ((Int32.ofInt b).toInt64 &&& 63)).toInt)) = some (.inl q) from e)
    try unfold c_opS at e
    try unfold c_go at e
    (repeat' split at e) <;> first | (cases e; exact x_ext.rf _) | (cases e; exact x_ext.app _ _) | cases e
  case i2l =>
    obtain ⟨-, e⟩ := c_if_ok (show c_if (len == 1) (c_un pc L st h 0 1 (fun a => a)) = some (.inl q) from e)
    try unfold c_un at e
    try unfold c_go at e
    (repeat' split at e) <;> first | (cases e; exact x_ext.rf _) | (cases e; exact x_ext.app _ _) | cases e
  case l2i =>
    obtain ⟨-, e⟩ := c_if_ok (show c_if (len == 1) (c_un pc L st h 1 0 (fun a => (Int64.ofInt a).toInt32.toInt)) = some (.inl q) from e)
    try unfold c_un at e
    try unfold c_go at e
    (repeat' split at e) <;> first | (cases e; exact x_ext.rf _) | (cases e; exact x_ext.app _ _) | cases e
  case dup =>
    obtain ⟨-, e⟩ := c_if_ok (show c_if (len == 1) (c_dup pc L st h) = some (.inl q) from e)
    try unfold c_dup at e
    try unfold c_go at e
    (repeat' split at e) <;> first | (cases e; exact x_ext.rf _) | (cases e; exact x_ext.app _ _) | cases e
  case pop =>
    obtain ⟨-, e⟩ := c_if_ok (show c_if (len == 1) (c_pop pc L st h) = some (.inl q) from e)
    try unfold c_pop at e
    try unfold c_go at e
    (repeat' split at e) <;> first | (cases e; exact x_ext.rf _) | (cases e; exact x_ext.app _ _) | cases e
  case dup2 =>
    obtain ⟨-, e⟩ := c_if_ok (show c_if (len == 1) (c_dup2 pc L st h) = some (.inl q) from e)
    try unfold c_dup2 at e
    try unfold c_go at e
    (repeat' split at e) <;> first | (cases e; exact x_ext.rf _) | (cases e; exact x_ext.app _ _) | cases e
  case ifCond cn off =>
    obtain ⟨-, e⟩ := c_if_ok (show c_if (len == 3) (c_if1 pc L st h cn off) = some (.inl q) from e)
    try unfold c_if1 at e
    try unfold c_br at e
    (repeat' split at e) <;> first | (cases e; exact x_ext.rf _) | (cases e; exact x_ext.app _ _) | cases e
  case if_icmp cn off =>
    obtain ⟨-, e⟩ := c_if_ok (show c_if (len == 3) (c_if2 pc L st h cn off) = some (.inl q) from e)
    try unfold c_if2 at e
    try unfold c_br at e
    (repeat' split at e) <;> first | (cases e; exact x_ext.rf _) | (cases e; exact x_ext.app _ _) | cases e
  case goto off =>
    obtain ⟨-, e⟩ := c_if_ok (show c_if (len == 3) (c_goto pc L st h off) = some (.inl q) from e)
    try unfold c_goto at e
    (repeat' split at e) <;> first | (cases e; exact x_ext.rf _) | (cases e; exact x_ext.app _ _) | cases e
  case getfield idx =>
    obtain ⟨-, e⟩ := c_if_ok (show c_if (len == 3) (c_getf P m pc L st h idx) = some (.inl q) from e)
    try unfold c_getf at e
    try unfold c_go at e
    (repeat' split at e) <;> first | (cases e; exact x_ext.rf _) | (cases e; exact x_ext.app _ _) | cases e
  case putfield idx =>
    obtain ⟨-, e⟩ := c_if_ok (show c_if (len == 3) (c_putf P m pc L st h idx) = some (.inl q) from e)
    try unfold c_putf at e
    (repeat' split at e) <;> first | (cases e; exact x_ext.rf _) | (cases e; exact x_ext.app _ _) | cases e
  case iaload =>
    obtain ⟨-, e⟩ := c_if_ok (show c_if (len == 1) (c_ald m pc L st h xs Ln 0 0) = some (.inl q) from e)
    try unfold c_ald at e
    try unfold c_go at e
    (repeat' split at e) <;> first | (cases e; exact x_ext.rf _) | (cases e; exact x_ext.app _ _) | cases e
  case laload =>
    obtain ⟨-, e⟩ := c_if_ok (show c_if (len == 1) (c_ald m pc L st h xs Ln 1 1) = some (.inl q) from e)
    try unfold c_ald at e
    try unfold c_go at e
    (repeat' split at e) <;> first | (cases e; exact x_ext.rf _) | (cases e; exact x_ext.app _ _) | cases e
  case baload =>
    obtain ⟨-, e⟩ := c_if_ok (show c_if (len == 1) (c_ald m pc L st h xs Ln 0 2) = some (.inl q) from e)
    try unfold c_ald at e
    try unfold c_go at e
    (repeat' split at e) <;> first | (cases e; exact x_ext.rf _) | (cases e; exact x_ext.app _ _) | cases e
  case iastore =>
    obtain ⟨-, e⟩ := c_if_ok (show c_if (len == 1) (c_ast pc L st h 0 0) = some (.inl q) from e)
    try unfold c_ast at e
    (repeat' split at e) <;> first | (cases e; exact x_ext.rf _) | (cases e; exact x_ext.app _ _) | cases e
  case lastore =>
    obtain ⟨-, e⟩ := c_if_ok (show c_if (len == 1) (c_ast pc L st h 1 1) = some (.inl q) from e)
    try unfold c_ast at e
    (repeat' split at e) <;> first | (cases e; exact x_ext.rf _) | (cases e; exact x_ext.app _ _) | cases e
  case bastore =>
    obtain ⟨-, e⟩ := c_if_ok (show c_if (len == 1) (c_ast pc L st h 0 2) = some (.inl q) from e)
    try unfold c_ast at e
    (repeat' split at e) <;> first | (cases e; exact x_ext.rf _) | (cases e; exact x_ext.app _ _) | cases e
  case arraylength =>
    obtain ⟨-, e⟩ := c_if_ok (show c_if (len == 1) (c_alen m pc L st h Ln) = some (.inl q) from e)
    try unfold c_alen at e
    try unfold c_go at e
    (repeat' split at e) <;> first | (cases e; exact x_ext.rf _) | (cases e; exact x_ext.app _ _) | cases e
  case new idx =>
    obtain ⟨-, e⟩ := c_if_ok (show c_if (len == 3) (c_newo P m pc L st h idx) = some (.inl q) from e)
    try unfold c_newo at e
    (repeat' split at e) <;> first | (cases e; exact x_ext.rf _) | (cases e; exact x_ext.app _ _) | cases e
  case invokevirtual idx =>
    obtain ⟨-, e⟩ := c_if_ok (show c_if (len == 3) (c_invV P m st h idx) = some (.inl q) from e)
    try unfold c_invV at e
    try unfold c_call at e
    (repeat' split at e) <;> first | (cases e; exact x_ext.rf _) | (cases e; exact x_ext.app _ _) | cases e
  case invokespecial idx =>
    obtain ⟨-, e⟩ := c_if_ok (show c_if (len == 3) (c_invI P m pc L st h idx) = some (.inl q) from e)
    try unfold c_invI at e
    try unfold c_call at e
    try unfold c_go at e
    (repeat' split at e) <;> first | (cases e; exact x_ext.rf _) | (cases e; exact x_ext.app _ _) | cases e
  case invokestatic idx =>
    obtain ⟨-, e⟩ := c_if_ok (show c_if (len == 3) (c_invS P m pc L st h idx) = some (.inl q) from e)
    try unfold c_invS at e
    try unfold c_call at e
    try unfold c_cpy at e
    (repeat' split at e) <;> first | (cases e; exact x_ext.rf _) | (cases e; exact x_ext.app _ _) | cases e
  case ireturn =>
    obtain ⟨-, e⟩ := c_if_ok (show c_if (len == 1) (c_ret P m st 0) = some (.inl q) from e)
    try unfold c_ret at e
    (repeat' split at e) <;> first | (cases e; exact x_ext.rf _) | (cases e; exact x_ext.app _ _) | cases e
  case lreturn =>
    obtain ⟨-, e⟩ := c_if_ok (show c_if (len == 1) (c_ret P m st 1) = some (.inl q) from e)
    try unfold c_ret at e
    (repeat' split at e) <;> first | (cases e; exact x_ext.rf _) | (cases e; exact x_ext.app _ _) | cases e
  case areturn =>
    obtain ⟨-, e⟩ := c_if_ok (show c_if (len == 1) (c_ret P m st 3) = some (.inl q) from e)
    try unfold c_ret at e
    (repeat' split at e) <;> first | (cases e; exact x_ext.rf _) | (cases e; exact x_ext.app _ _) | cases e
  case return_ =>
    obtain ⟨-, e⟩ := c_if_ok (show c_if (len == 1) (c_retV P m st) = some (.inl q) from e)
    try unfold c_retV at e
    (repeat' split at e) <;> first | (cases e; exact x_ext.rf _) | (cases e; exact x_ext.app _ _) | cases e
  case newarray at9 =>
    obtain ⟨-, e⟩ := c_if_ok (show c_if (len == 2) (match (generalizing := false) at9 with | .int => c_newa pc L st h 0 | .long => c_newa pc L st h 1 | .boolean => c_newa pc L st h 2 | _ => none) = some (.inl q) from e)
    unfold c_newa at e
    (repeat' split at e) <;> first | (cases e; exact x_ext.app _ _) | cases e
  case tableswitch dflt lo hi offs =>
    have e : c_sw pc L st h dflt lo hi offs.toList = some (.inl q) := e
    unfold c_sw at e
    (repeat' split at e) <;> first | (cases e; exact x_ext.rf _) | cases e
  case lookupswitch dflt ps =>
    have e : c_lsw pc L st h dflt ps.toList = some (.inl q) := e
    unfold c_lsw at e
    (repeat' split at e) <;> first | (cases e; exact x_ext.rf _) | cases e
  all_goals exact absurd (show (none : Option cO) = some (.inl q) from e) (by simp)
theorem c_exec_ok {P : xP} {xs : Nat → Int} {Ln n d m pc : Nat} {L : List (Nat × cV)} {st : List cV} {h : cH} {res : Option cV × cH} (e : c_exec P xs Ln (n + 1) d m pc L st h = some res) :
    ∃ (i : Instr) (len : Nat), x_code P m pc = some (i, len) ∧ ((∃ q : cN, c_ins P m pc L st h xs Ln i len = some (.inl q) ∧ c_exec P xs Ln n d m q.1 q.2.1 q.2.2.1 q.2.2.2 = some res) ∨ (c_ins P m pc L st h xs Ln i len = some (.inr (.inl res.1)) ∧ res.2 = h) ∨
      ∃ (j : Nat) (as rest : List cV) (d' : Nat) (r : Option cV) (h1 : cH), c_ins P m pc L st h xs Ln i len = some (.inr (.inr (j, as, rest))) ∧ d = d' + 1 ∧ c_exec P xs Ln n d' j 0 (c_args 0 as) [] h = some (r, h1) ∧ c_exec P xs Ln n (d' + 1) m (pc + 3) L (r.toList ++ rest) h1 = some res) := by
  unfold c_exec at e
  split at e
  next => cases e
  next i len hc =>
    refine ⟨i, len, hc, ?_⟩
    split at e
    next => cases e
    next q hi => exact Or.inl ⟨q, hi, e⟩
    next r hi => cases e; exact Or.inr (Or.inl ⟨hi, rfl⟩)
    next q hi =>
      split at e
      next => cases e
      next d' =>
        split at e
        next => cases e
        next r hr => exact Or.inr (Or.inr ⟨q.1, q.2.1, q.2.2, d', r.1, r.2, hi, rfl, hr, e⟩)
theorem c_ext {P : xP} {xs : Nat → Int} {Ln : Nat} : ∀ {n d m pc : Nat} {L : List (Nat × cV)} {st : List cV} {h : cH} {res : Option cV × cH}, c_exec P xs Ln n d m pc L st h = some res → x_ext h.1 res.2.1 := by
  intro n
  induction n with
  | zero => intro d m pc L st h res e; cases e
  | succ n ih =>
    intro d m pc L st h res e
    obtain ⟨i, len, -, h1 | h1 | h1⟩ := c_exec_ok e
    · obtain ⟨q, h1, h2⟩ := h1
      exact (c_ins_ext h1).tr (ih h2)
    · rw [h1.2]
      exact x_ext.rf _
    · obtain ⟨j, as, rest, d', r, h1, -, -, h3, h4⟩ := h1
      exact (ih h3).tr (ih h4)
section CI
variable {p : Program} {l : Launch} {e : Env} {R : Room} {s : State} {mid : MethodId} {args : Array Value} {below : List Frame} {meth : Method} {c : Code} {Q : State → Prop} {P : xP} {D : va_G} {cl : List vw_C} {B0 sc : Nat} {ad0 : List Nat} {n0 s0 : Nat}
  {m pc : Nat} {L : List (Nat × cV)} {st : List cV} {h : cH} {xs : Nat → Int} {Ln : Nat}
/-- a call, with what its kind asks -/
theorem c_w_inv {n j d : Nat} {as rest : List cV} {h1 : cH} {r : Option cV} (hOK : x_OK cl P) (hS : c_Snd P D cl B0 sc l xs Ln n) (hm : x_okm P j) (hb1 : n0 ≤ h.1.length) (hb2 : s0 ≤ c_sz P h.1) (hb3 : h1.1.length - n0 ≤ R.cells) (hb4 : c_sz P h1.1 - s0 ≤ R.slots)
    (hfit : (as.map c_cat).sum ≤ x_maxL P j) (hrun : c_exec P xs Ln n d j 0 (c_args 0 as) [] h = some (r, h1)) (kk : c_OKs p l e R s mid args below meth c Q P D cl B0 sc (x_maxL P m) ad0 n0 s0 (pc + 3) L (r.toList ++ rest) h1)
    (row : ∀ {ad : List Nat} {H : Heap} {locs : List Loc} {ls : Array Slot} {stc : List Value}, (h.1.length - n0) + (h1.1.length - h.1.length) ≤ R.cells ∧ (c_sz P h.1 - s0) + (c_sz P h1.1 - c_sz P h.1) ≤ R.slots → ls.size = x_maxL P m → c_vals ad sc st stc → c_rel P D cl B0 sc s ad h H locs →
      ∃ av restc : List Value, c_vals ad sc as av ∧ c_vals ad sc rest restc ∧ ∀ Qc : Array Value → State → Outcome → State → Prop, Met l (x_nm P j) (x_ws P j) (c_rm P d h h1) (va_Pc av (fun U => B0 ≤ U.heap.size ∧ (∀ w ∈ x_nest, va_Nw w U) ∧ c_B P D cl B0 sc ad h U)) Qc (h1.1.length - h.1.length) (c_sz P h1.1 - c_sz P h.1) (fun q : Nat => B0 ≤ q) →
        va_Run p l e R s mid args below meth c H locs (h.1.length - n0) (c_sz P h.1 - s0) (h1.1.length - h.1.length) (c_sz P h1.1 - c_sz P h.1) (F0 mid pc ls stc) restc (Qc av.toArray) (fun q : Nat => B0 ≤ q)) :
    c_OKs p l e R s mid args below meth c Q P D cl B0 sc (x_maxL P m) ad0 n0 s0 pc L st h := by
  intro ad H locs ls stc e2 hr hfr
  obtain ⟨lv, q1, q2, q3⟩ := hfr
  have hx1 := (c_ext hrun).len
  have hx2 := c_sz_ext (P := P) (c_ext hrun)
  have hx1 : h.1.length ≤ h1.1.length := hx1
  have hx2 : c_sz P h.1 ≤ c_sz P h1.1 := hx2
  obtain ⟨av, restc, g1, g2, g3⟩ := row ⟨by omega, by omega⟩ q1.1 q3 hr
  have M := c_met hOK hS hm hrun g1 hfit
  have aS : va_S (fun q : Nat => B0 ≤ q) s.heap H locs := by
    obtain ⟨ws, tys, aK, aP, aD, aS, aH⟩ := hr
    exact aS
  refine c_go_call (g3 _ M) aS (fun xo ad' H1 locs1 hv he hrel => ?_)
  refine W.cells_eq (a' := h1.1.length - n0) (b' := c_sz P h1.1 - s0) (by omega) (by omega) ?_
  refine kk ad' H1 locs1 ls (xo.toList ++ restc) (e2.tr he) hrel ⟨lv, q1, q2.mono he, ?_⟩
  have g2' := g2.mono he
  cases r with
  | none =>
    cases xo with
    | none => exact g2'
    | some x => exact hv.elim
  | some v =>
    cases xo with
    | none => exact hv.elim
    | some x => exact ⟨hv, g2'⟩
theorem c_room {d j : Nat} {h h1 : cH} (hj : x_maxL P j ≤ 60) (h1' : d + 1 + 1 ≤ R.frames) (h2 : 100 * (d + 1 + 1) ≤ R.locals) : (c_rm P d h h1).frames + 1 ≤ R.frames ∧ 8 + (x_maxL P j + 11) + (c_rm P d h h1).locals ≤ R.locals := by
  refine ⟨h1', ?_⟩
  show 8 + (x_maxL P j + 11) + 100 * (d + 1) ≤ R.locals
  omega
theorem c_call_ok {j j' : Nat} {as rest as' rest' : List cV} (h : c_call P j as rest = some (.inr (.inr (j', as', rest')))) : j' = j ∧ as' = as ∧ rest' = rest ∧ x_maxL P j ≤ 60 ∧ (as.map c_cat).sum ≤ x_maxL P j ∧ (rest.map c_cat).sum ≤ 8 := by
  unfold c_call at h
  split at h
  next hc => cases h; exact ⟨rfl, rfl, rfl, hc⟩
  next => cases h
theorem c_w_invV {n idx j d : Nat} {as rest : List cV} {h1 : cH} {r : Option cV} (hOK : x_OK cl P) (hS : c_Snd P D cl B0 sc l xs Ln n) (ctx : c_Ctx P B0 p R s mid args meth c m (d + 1)) (hb1 : n0 ≤ h.1.length) (hb2 : s0 ≤ c_sz P h.1) (hb3 : h1.1.length - n0 ≤ R.cells) (hb4 : c_sz P h1.1 - s0 ≤ R.slots)
    (hrun : c_exec P xs Ln n d j 0 (c_args 0 as) [] h = some (r, h1)) (kk : c_OKs p l e R s mid args below meth c Q P D cl B0 sc (x_maxL P m) ad0 n0 s0 (pc + 3) L (r.toList ++ rest) h1)
    (hdec : decode (x_by P m) pc = .ok (.invokevirtual idx, 3)) (hinv : c_invV P m st h idx = some (.inr (.inr (j, as, rest)))) : c_OKs p l e R s mid args below meth c Q P D cl B0 sc (x_maxL P m) ad0 n0 s0 pc L st h := by
  have hpool := hOK.2.2.1 m idx
  unfold c_invV at hinv
  split at hinv
  next j0 n9 hp =>
    rw [hp] at hpool
    obtain ⟨hm, ha, q1, q2, q3, C, q4, q5⟩ := hpool
    split at hinv
    next k9 rest0 hdrop =>
      split at hinv
      next ci hcell =>
        split at hinv
        next hci =>
          obtain ⟨rfl, rfl, rfl, m1, m2, m3⟩ := c_call_ok hinv
          refine c_w_inv hOK hS hm hb1 hb2 hb3 hb4 m2 hrun kk ?_
          intro ad H locs ls stc d3 d5 h3 hr
          have t1 := h3.take n9.toNat
          have t2 := h3.drop n9.toNat
          rw [hdrop] at t2
          obtain ⟨x, restc, t3, t4, t5⟩ := t2.cons
          obtain ⟨t7, a, rfl, t6⟩ := t4
          have hstc : stc = stc.take n9.toNat ++ .ref a :: restc := by rw [← t3, List.take_append_drop]
          have hlen : (stc.take n9.toNat).length = n9.toNat := by rw [← t1.len]; exact hci.2
          refine ⟨.ref a :: (stc.take n9.toNat).reverse, restc, ⟨⟨t7, a, rfl, t6⟩, t1.rev⟩, t5, fun Qc M => ?_⟩
          have hr0 := hr
          obtain ⟨ws, tys, aK, aP, aD, aS, aH⟩ := hr
          obtain ⟨ev, w1, w2⟩ := aH.at hcell t6
          obtain ⟨xs9, rfl, w3, w4⟩ := w2
          obtain ⟨hx, hb, hrt, hml, hown, hts, hnest, hlocks, hnm, hB, hR1, hR2⟩ := ctx
          have hcl : cl[ci]? = some C := by rw [hci.1]; exact q4
          have hrec := va_recv aK aP hcl w1
          rw [q5] at hrec
          exact va_runV (C := (x_nm P j).cls) (n := n9.toNat) (As := (stc.take n9.toNat).reverse) ⟨hx, hb, hml, hown, hts⟩ M
            ⟨callB_of n9.toNat hts (x_goodIn hm.1) rfl rfl rfl (hts _ hm.2.1) (hts _ q1) ⟨hm.2.2.2.1.1, hm.2.2.2.1.2, ha⟩ (c_room m1 hR1 hR2), hts _ q2, hts _ q3⟩
            ⟨c_blind, hrec, fun U hU hW => ⟨rfl, c_B_of hr0 hB hnest U hU hW⟩⟩ rfl (by rw [List.length_reverse]; exact hlen) d5 (by show stc = _; rw [List.reverse_reverse]; exact hstc) (lv_room (by rw [c_cats t5]; exact m3)) hdec d3
        next => cases hinv
      next => cases hinv
    next => cases hinv
  next j0 n9 hp =>
    rw [hp] at hpool
    obtain ⟨hm, ha, ⟨host, q1⟩, q2, q3, C, q4, q5⟩ := hpool
    split at hinv
    next k9 rest0 hdrop =>
      split at hinv
      next ci hcell =>
        split at hinv
        next hci =>
          obtain ⟨rfl, rfl, rfl, m1, m2, m3⟩ := c_call_ok hinv
          refine c_w_inv hOK hS hm hb1 hb2 hb3 hb4 m2 hrun kk ?_
          intro ad H locs ls stc d3 d5 h3 hr
          have t1 := h3.take n9.toNat
          have t2 := h3.drop n9.toNat
          rw [hdrop] at t2
          obtain ⟨x, restc, t3, t4, t5⟩ := t2.cons
          obtain ⟨t7, a, rfl, t6⟩ := t4
          have hstc : stc = stc.take n9.toNat ++ .ref a :: restc := by rw [← t3, List.take_append_drop]
          have hlen : (stc.take n9.toNat).length = n9.toNat := by rw [← t1.len]; exact hci.2
          refine ⟨.ref a :: (stc.take n9.toNat).reverse, restc, ⟨⟨t7, a, rfl, t6⟩, t1.rev⟩, t5, fun Qc M => ?_⟩
          have hr0 := hr
          obtain ⟨ws, tys, aK, aP, aD, aS, aH⟩ := hr
          obtain ⟨ev, w1, w2⟩ := aH.at hcell t6
          obtain ⟨xs9, rfl, w3, w4⟩ := w2
          obtain ⟨hx, hb, hrt, hml, hown, hts, hnest, hlocks, hnm, hB, hR1, hR2⟩ := ctx
          have hcl : cl[ci]? = some C := by rw [hci.1]; exact q4
          have hrec := va_recv aK aP hcl w1
          rw [q5] at hrec
          exact va_runVN (C := (x_nm P j).cls) (n := n9.toNat) (As := (stc.take n9.toNat).reverse) ⟨hx, hb, hml, hown, hts⟩ M
            ⟨va_cnB n9.toNat hts (x_goodIn hm.1) rfl rfl rfl (hnest _ q1) (hts _ hm.2.1) ⟨hm.2.2.2.1.1, hm.2.2.2.1.2, ha⟩ (c_room m1 hR1 hR2), hts _ q2, hts _ q3⟩
            ⟨c_blind, hrec, fun U hU hW => ⟨rfl, c_B_of hr0 hB hnest U hU hW⟩⟩ rfl (by rw [List.length_reverse]; exact hlen) d5 (by show stc = _; rw [List.reverse_reverse]; exact hstc) (lv_room (by rw [c_cats t5]; exact m3)) hdec d3
        next => cases hinv
      next => cases hinv
    next => cases hinv
  next => cases hinv
theorem c_w_invS {n idx j d : Nat} {as rest : List cV} {h1 : cH} {r : Option cV} (hOK : x_OK cl P) (hS : c_Snd P D cl B0 sc l xs Ln n) (ctx : c_Ctx P B0 p R s mid args meth c m (d + 1)) (hb1 : n0 ≤ h.1.length) (hb2 : s0 ≤ c_sz P h.1) (hb3 : h1.1.length - n0 ≤ R.cells) (hb4 : c_sz P h1.1 - s0 ≤ R.slots)
    (hrun : c_exec P xs Ln n d j 0 (c_args 0 as) [] h = some (r, h1)) (kk : c_OKs p l e R s mid args below meth c Q P D cl B0 sc (x_maxL P m) ad0 n0 s0 (pc + 3) L (r.toList ++ rest) h1)
    (hdec : decode (x_by P m) pc = .ok (.invokestatic idx, 3)) (hinv : c_invS P m pc L st h idx = some (.inr (.inr (j, as, rest)))) : c_OKs p l e R s mid args below meth c Q P D cl B0 sc (x_maxL P m) ad0 n0 s0 pc L st h := by
  have hpool := hOK.2.2.1 m idx
  unfold c_invS at hinv
  split at hinv
  next j0 n9 hp =>
    rw [hp] at hpool
    obtain ⟨hm, ha, q1, q2⟩ := hpool
    split at hinv
    next hci =>
      obtain ⟨rfl, rfl, rfl, m1, m2, m3⟩ := c_call_ok hinv
      refine c_w_inv hOK hS hm hb1 hb2 hb3 hb4 m2 hrun kk ?_
      intro ad H locs ls stc d3 d5 h3 hr
      have t1 := h3.take n9.toNat
      have t2 := h3.drop n9.toNat
      have hlen : (stc.take n9.toNat).length = n9.toNat := by rw [← t1.len]; exact hci
      refine ⟨(stc.take n9.toNat).reverse, stc.drop n9.toNat, t1.rev, t2, fun Qc M => ?_⟩
      obtain ⟨hx, hb, hrt, hml, hown, hts, hnest, hlocks, hnm, hB, hR1, hR2⟩ := ctx
      exact va_runS (n := n9.toNat) (As := (stc.take n9.toNat).reverse) ⟨hx, hb, hml, hown, hts⟩ M
        ⟨callB_of n9.toNat hts (x_goodIn hm.1) rfl rfl rfl (hts _ hm.2.1) (hts _ q1) ⟨hm.2.2.2.1.1, hm.2.2.2.1.2, ha⟩ (c_room m1 hR1 hR2), hts _ q2⟩
        ⟨c_blind, fun U hU hW => ⟨rfl, c_B_of hr hB hnest U hU hW⟩⟩ rfl (by rw [List.length_reverse]; exact hlen) d5 (by show stc = _; rw [List.reverse_reverse, List.take_append_drop]) (lv_room (by rw [c_cats t2]; exact m3)) hdec d3
    next => cases hinv
  next =>
    unfold c_cpy at hinv
    (repeat' split at hinv) <;> cases hinv
  next => cases hinv
theorem c_w_invI {n idx j d : Nat} {as rest : List cV} {h1 : cH} {r : Option cV} (hOK : x_OK cl P) (hS : c_Snd P D cl B0 sc l xs Ln n) (ctx : c_Ctx P B0 p R s mid args meth c m (d + 1)) (hb1 : n0 ≤ h.1.length) (hb2 : s0 ≤ c_sz P h.1) (hb3 : h1.1.length - n0 ≤ R.cells) (hb4 : c_sz P h1.1 - s0 ≤ R.slots)
    (hrun : c_exec P xs Ln n d j 0 (c_args 0 as) [] h = some (r, h1)) (kk : c_OKs p l e R s mid args below meth c Q P D cl B0 sc (x_maxL P m) ad0 n0 s0 (pc + 3) L (r.toList ++ rest) h1)
    (hdec : decode (x_by P m) pc = .ok (.invokespecial idx, 3)) (hinv : c_invI P m pc L st h idx = some (.inr (.inr (j, as, rest)))) : c_OKs p l e R s mid args below meth c Q P D cl B0 sc (x_maxL P m) ad0 n0 s0 pc L st h := by
  have hpool := hOK.2.2.1 m idx
  unfold c_invI at hinv
  split at hinv
  next j0 n9 hp =>
    rw [hp] at hpool
    obtain ⟨hm, ha, q1, q2, q3, q4⟩ := hpool
    have q4 : x_rt P j0 = none := q4
    split at hinv
    next k9 rest0 hdrop =>
      split at hinv
      next hci =>
        obtain ⟨rfl, rfl, rfl, m1, m2, m3⟩ := c_call_ok hinv
        refine c_w_inv hOK hS hm hb1 hb2 hb3 hb4 m2 hrun kk ?_
        intro ad H locs ls stc d3 d5 h3 hr
        have t1 := h3.take n9.toNat
        have t2 := h3.drop n9.toNat
        rw [hdrop] at t2
        obtain ⟨x, restc, t3, t4, t5⟩ := t2.cons
        obtain ⟨t7, a, rfl, t6⟩ := t4
        have hstc : stc = stc.take n9.toNat ++ .ref a :: restc := by rw [← t3, List.take_append_drop]
        have hlen : (stc.take n9.toNat).length = n9.toNat := by rw [← t1.len]; exact hci
        refine ⟨.ref a :: (stc.take n9.toNat).reverse, restc, ⟨⟨t7, a, rfl, t6⟩, t1.rev⟩, t5, fun Qc M => ?_⟩
        obtain ⟨hx, hb, hrt, hml, hown, hts, hnest, hlocks, hnm, hB, hR1, hR2⟩ := ctx
        exact va_runI (n := n9.toNat) (As := (stc.take n9.toNat).reverse) ⟨hx, hb, hml, hown, hts⟩ M
          ⟨callB_of n9.toNat hts (x_goodIn hm.1) (by unfold x_ws; rw [q4]) rfl rfl (hts _ hm.2.1) (hts _ q1) ⟨hm.2.2.2.1.1, hm.2.2.2.1.2, ha⟩ (c_room m1 hR1 hR2), q3, hts _ q2⟩
          ⟨c_blind, fun U hU hW => ⟨rfl, c_B_of hr hB hnest U hU hW⟩⟩ rfl (by rw [List.length_reverse]; exact hlen) d5 (by show stc = _; rw [List.reverse_reverse]; exact hstc) (lv_room (by rw [c_cats t5]; exact m3)) hdec d3
      next => cases hinv
    next => cases hinv
  next j0 n9 hp =>
    rw [hp] at hpool
    obtain ⟨hm, ha, ⟨host, q1⟩, q2, q3, q4⟩ := hpool
    have q4 : x_rt P j0 = none := q4
    split at hinv
    next k9 rest0 hdrop =>
      split at hinv
      next hci =>
        obtain ⟨rfl, rfl, rfl, m1, m2, m3⟩ := c_call_ok hinv
        refine c_w_inv hOK hS hm hb1 hb2 hb3 hb4 m2 hrun kk ?_
        intro ad H locs ls stc d3 d5 h3 hr
        have t1 := h3.take n9.toNat
        have t2 := h3.drop n9.toNat
        rw [hdrop] at t2
        obtain ⟨x, restc, t3, t4, t5⟩ := t2.cons
        obtain ⟨t7, a, rfl, t6⟩ := t4
        have hstc : stc = stc.take n9.toNat ++ .ref a :: restc := by rw [← t3, List.take_append_drop]
        have hlen : (stc.take n9.toNat).length = n9.toNat := by rw [← t1.len]; exact hci
        refine ⟨.ref a :: (stc.take n9.toNat).reverse, restc, ⟨⟨t7, a, rfl, t6⟩, t1.rev⟩, t5, fun Qc M => ?_⟩
        obtain ⟨hx, hb, hrt, hml, hown, hts, hnest, hlocks, hnm, hB, hR1, hR2⟩ := ctx
        exact va_runIN (n := n9.toNat) (As := (stc.take n9.toNat).reverse) ⟨hx, hb, hml, hown, hts⟩ M
          ⟨va_cnB n9.toNat hts (x_goodIn hm.1) (by unfold x_ws; rw [q4]) rfl rfl (hnest _ q1) (hts _ hm.2.1) ⟨hm.2.2.2.1.1, hm.2.2.2.1.2, ha⟩ (c_room m1 hR1 hR2), q3, hts _ q2⟩
          ⟨c_blind, fun U hU hW => ⟨rfl, c_B_of hr hB hnest U hU hW⟩⟩ rfl (by rw [List.length_reverse]; exact hlen) d5 (by show stc = _; rw [List.reverse_reverse]; exact hstc) (lv_room (by rw [c_cats t5]; exact m3)) hdec d3
      next => cases hinv
    next => cases hinv
  next =>
    unfold c_go at hinv
    (repeat' split at hinv) <;> cases hinv
  next => cases hinv
end CI
