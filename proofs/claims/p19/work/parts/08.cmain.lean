def x_isInv (i : Instr) : Prop := ∃ idx, i = .invokevirtual idx ∨ i = .invokespecial idx ∨ i = .invokestatic idx
set_option maxHeartbeats 4000000 in
theorem c_ins_kind {P : xP} {m pc : Nat} {L : List (Nat × cV)} {st : List cV} {h : cH} {xs : Nat → Int} {Ln : Nat} {i : Instr} {len : Nat} {o : cO} (e : c_ins P m pc L st h xs Ln i len = some o) : (∃ q, o = .inl q) ∨ x_isRet i ∨ x_isInv i := by
  cases i
  case iconst z =>
    left
    obtain ⟨-, e⟩ := c_if_ok (show c_if (len == 1) (c_go pc h 1 L ((0, (Int32.ofInt z).toInt) :: st)) = some o from e)
    try unfold c_go at e
    (repeat' split at e) <;> first | (cases e; exact ⟨_, rfl⟩) | cases e
  case bipush z =>
    left
    obtain ⟨-, e⟩ := c_if_ok (show c_if (len == 2) (c_go pc h 2 L ((0, (Int8.ofInt z).toInt32.toInt) :: st)) = some o from e)
    try unfold c_go at e
    (repeat' split at e) <;> first | (cases e; exact ⟨_, rfl⟩) | cases e
  case sipush z =>
    left
    obtain ⟨-, e⟩ := c_if_ok (show c_if (len == 3) (c_go pc h 3 L ((0, (Int16.ofInt z).toInt32.toInt) :: st)) = some o from e)
    try unfold c_go at e
    (repeat' split at e) <;> first | (cases e; exact ⟨_, rfl⟩) | cases e
  case lconst z =>
    left
    obtain ⟨-, e⟩ := c_if_ok (show c_if (len == 1) (c_go pc h 1 L ((1, (Int64.ofNat (z : Nat)).toInt) :: st)) = some o from e)
    try unfold c_go at e
    (repeat' split at e) <;> first | (cases e; exact ⟨_, rfl⟩) | cases e
  case ldc idx =>
    left
    obtain ⟨-, e⟩ := c_if_ok (show c_if (len == 2) (match (generalizing := false) x_pool P m idx with | (7, _, c) => c_go pc h 2 L ((0, c) :: st) | _ => none) = some o from e)
    try unfold c_go at e
    (repeat' split at e) <;> first | (cases e; exact ⟨_, rfl⟩) | cases e
  case ldc_w idx =>
    left
    obtain ⟨-, e⟩ := c_if_ok (show c_if (len == 3) (match (generalizing := false) x_pool P m idx with | (7, _, c) => c_go pc h 3 L ((0, c) :: st) | _ => none) = some o from e)
    try unfold c_go at e
    (repeat' split at e) <;> first | (cases e; exact ⟨_, rfl⟩) | cases e
  case ldc2_w idx =>
    left
    obtain ⟨-, e⟩ := c_if_ok (show c_if (len == 3) (match (generalizing := false) x_pool P m idx with | (8, _, c) => c_go pc h 3 L ((1, c) :: st) | _ => none) = some o from e)
    try unfold c_go at e
    (repeat' split at e) <;> first | (cases e; exact ⟨_, rfl⟩) | cases e
  case iload z =>
    left
    obtain ⟨-, e⟩ := c_if_ok (show c_if (len == 2) (c_ld pc L st h 2 0 z) = some o from e)
    try unfold c_ld at e
    try unfold c_go at e
    (repeat' split at e) <;> first | (cases e; exact ⟨_, rfl⟩) | cases e
  case iload_n z =>
    left
    obtain ⟨-, e⟩ := c_if_ok (show c_if (len == 1) (c_ld pc L st h 1 0 (z : Nat)) = some o from e)
    try unfold c_ld at e
    try unfold c_go at e
    (repeat' split at e) <;> first | (cases e; exact ⟨_, rfl⟩) | cases e
  case lload z =>
    left
    obtain ⟨-, e⟩ := c_if_ok (show c_if (len == 2) (c_ld pc L st h 2 1 z) = some o from e)
    try unfold c_ld at e
    try unfold c_go at e
    (repeat' split at e) <;> first | (cases e; exact ⟨_, rfl⟩) | cases e
  case lload_n z =>
    left
    obtain ⟨-, e⟩ := c_if_ok (show c_if (len == 1) (c_ld pc L st h 1 1 (z : Nat)) = some o from e)
    try unfold c_ld at e
    try unfold c_go at e
    (repeat' split at e) <;> first | (cases e; exact ⟨_, rfl⟩) | cases e
  case aload z =>
    left
    obtain ⟨-, e⟩ := c_if_ok (show c_if (len == 2) (c_lda pc L st h 2 z) = some o from e)
    try unfold c_lda at e
    try unfold c_go at e
    (repeat' split at e) <;> first | (cases e; exact ⟨_, rfl⟩) | cases e
  case aload_n z =>
    left
    obtain ⟨-, e⟩ := c_if_ok (show c_if (len == 1) (c_lda pc L st h 1 (z : Nat)) = some o from e)
    try unfold c_lda at e
    try unfold c_go at e
    (repeat' split at e) <;> first | (cases e; exact ⟨_, rfl⟩) | cases e
  case istore z =>
    left
    obtain ⟨-, e⟩ := c_if_ok (show c_if (len == 2) (c_st P m pc L st h 2 0 z) = some o from e)
    try unfold c_st at e
    try unfold c_go at e
    (repeat' split at e) <;> first | (cases e; exact ⟨_, rfl⟩) | cases e
  case istore_n z =>
    left
    obtain ⟨-, e⟩ := c_if_ok (show c_if (len == 1) (c_st P m pc L st h 1 0 (z : Nat)) = some o from e)
    try unfold c_st at e
    try unfold c_go at e
    (repeat' split at e) <;> first | (cases e; exact ⟨_, rfl⟩) | cases e
  case astore z =>
    left
    obtain ⟨-, e⟩ := c_if_ok (show c_if (len == 2) (c_st P m pc L st h 2 3 z) = some o from e)
    try unfold c_st at e
    try unfold c_go at e
    (repeat' split at e) <;> first | (cases e; exact ⟨_, rfl⟩) | cases e
  case astore_n z =>
    left
    obtain ⟨-, e⟩ := c_if_ok (show c_if (len == 1) (c_st P m pc L st h 1 3 (z : Nat)) = some o from e)
    try unfold c_st at e
    try unfold c_go at e
    (repeat' split at e) <;> first | (cases e; exact ⟨_, rfl⟩) | cases e
  case lstore z =>
    left
    obtain ⟨-, e⟩ := c_if_ok (show c_if (len == 2) (c_stL P m pc L st h 2 z) = some o from e)
    try unfold c_stL at e
    try unfold c_go at e
    (repeat' split at e) <;> first | (cases e; exact ⟨_, rfl⟩) | cases e
  case lstore_n z =>
    left
    obtain ⟨-, e⟩ := c_if_ok (show c_if (len == 1) (c_stL P m pc L st h 1 (z : Nat)) = some o from e)
    try unfold c_stL at e
    try unfold c_go at e
    (repeat' split at e) <;> first | (cases e; exact ⟨_, rfl⟩) | cases e
  case iinc z zc =>
    left
    obtain ⟨-, e⟩ := c_if_ok (show c_if (len == 3) (c_iinc P m pc L st h z zc) = some o from e)
    try unfold c_iinc at e
    try unfold c_go at e
    (repeat' split at e) <;> first | (cases e; exact ⟨_, rfl⟩) | cases e
  case iadd =>
    left
    obtain ⟨-, e⟩ := c_if_ok (show c_if (len == 1) (c_op2 pc L st h (c_bin (· + ·))) = some o from e)
    try unfold c_op2 at e
    try unfold c_go at e
    (repeat' split at e) <;> first | (cases e; exact ⟨_, rfl⟩) | cases e
  case isub =>
    left
    obtain ⟨-, e⟩ := c_if_ok (show c_if (len == 1) (c_op2 pc L st h (c_bin (· - ·))) = some o from e)
    try unfold c_op2 at e
    try unfold c_go at e
    (repeat' split at e) <;> first | (cases e; exact ⟨_, rfl⟩) | cases e
  case imul =>
    left
    obtain ⟨-, e⟩ := c_if_ok (show c_if (len == 1) (c_op2 pc L st h (c_bin (· * ·))) = some o from e)
    try unfold c_op2 at e
    try unfold c_go at e
    (repeat' split at e) <;> first | (cases e; exact ⟨_, rfl⟩) | cases e
  case iand =>
    left
    obtain ⟨-, e⟩ := c_if_ok (show c_if (len == 1) (c_op2 pc L st h (c_bin (· &&& ·))) = some o from e)
    try unfold c_op2 at e
    try unfold c_go at e
    (repeat' split at e) <;> first | (cases e; exact ⟨_, rfl⟩) | cases e
  case ior =>
    left
    obtain ⟨-, e⟩ := c_if_ok (show c_if (len == 1) (c_op2 pc L st h (c_bin (· ||| ·))) = some o from e)
    try unfold c_op2 at e
    try unfold c_go at e
    (repeat' split at e) <;> first | (cases e; exact ⟨_, rfl⟩) | cases e
  case ixor =>
    left
    obtain ⟨-, e⟩ := c_if_ok (show c_if (len == 1) (c_op2 pc L st h (c_bin (· ^^^ ·))) = some o from e)
    try unfold c_op2 at e
    try unfold c_go at e
    (repeat' split at e) <;> first | (cases e; exact ⟨_, rfl⟩) | cases e
  case ishl =>
    left
    obtain ⟨-, e⟩ := c_if_ok (show c_if (len == 1) (c_op2 pc L st h (c_bin (fun x y => x <<< (y &&& 31)))) = some o from e)
    try unfold c_op2 at e
    try unfold c_go at e
    (repeat' split at e) <;> first | (cases e; exact ⟨_, rfl⟩) | cases e
  case ishr =>
    left
    obtain ⟨-, e⟩ := c_if_ok (show c_if (len == 1) (c_op2 pc L st h (c_bin (fun x y => x >>> (y &&& 31)))) = some o from e)
    try unfold c_op2 at e
    try unfold c_go at e
    (repeat' split at e) <;> first | (cases e; exact ⟨_, rfl⟩) | cases e
  case iushr =>
    left
    obtain ⟨-, e⟩ := c_if_ok (show c_if (len == 1) (c_op2 pc L st h (c_bin (fun x y => (x.toUInt32 >>> (y.toUInt32 &&& Int32.toUInt32 31)).toInt32))) = some o from e)
    try unfold c_op2 at e
    try unfold c_go at e
    (repeat' split at e) <;> first | (cases e; exact ⟨_, rfl⟩) | cases e
  case ladd =>
    left
    obtain ⟨-, e⟩ := c_if_ok (show c_if (len == 1) (c_opL pc L st h (c_binL (· + ·))) = some o from e)
    try unfold c_opL at e
    try unfold c_go at e
    (repeat' split at e) <;> first | (cases e; exact ⟨_, rfl⟩) | cases e
  case lsub =>
    left
    obtain ⟨-, e⟩ := c_if_ok (show c_if (len == 1) (c_opL pc L st h (c_binL (· - ·))) = some o from e)
    try unfold c_opL at e
    try unfold c_go at e
    (repeat' split at e) <;> first | (cases e; exact ⟨_, rfl⟩) | cases e
  case lmul =>
    left
    obtain ⟨-, e⟩ := c_if_ok (show c_if (len == 1) (c_opL pc L st h (c_binL (· * ·))) = some o from e)
    try unfold c_opL at e
    try unfold c_go at e
    (repeat' split at e) <;> first | (cases e; exact ⟨_, rfl⟩) | cases e
  case land =>
    left
    obtain ⟨-, e⟩ := c_if_ok (show c_if (len == 1) (c_opL pc L st h (c_binL (· &&& ·))) = some o from e)
    try unfold c_opL at e
    try unfold c_go at e
    (repeat' split at e) <;> first | (cases e; exact ⟨_, rfl⟩) | cases e
  case lor =>
    left
    obtain ⟨-, e⟩ := c_if_ok (show c_if (len == 1) (c_opL pc L st h (c_binL (· ||| ·))) = some o from e)
    try unfold c_opL at e
    try unfold c_go at e
    (repeat' split at e) <;> first | (cases e; exact ⟨_, rfl⟩) | cases e
  case lxor =>
    left
    obtain ⟨-, e⟩ := c_if_ok (show c_if (len == 1) (c_opL pc L st h (c_binL (· ^^^ ·))) = some o from e)
    try unfold c_opL at e
    try unfold c_go at e
    (repeat' split at e) <;> first | (cases e; exact ⟨_, rfl⟩) | cases e
  case idiv =>
    left
    obtain ⟨-, e⟩ := c_if_ok (show c_if (len == 1) (c_div pc L st h (c_bin (· / ·))) = some o from e)
    try unfold c_div at e
    try unfold c_go at e
    (repeat' split at e) <;> first | (cases e; exact ⟨_, rfl⟩) | cases e
  case irem =>
    left
    obtain ⟨-, e⟩ := c_if_ok (show c_if (len == 1) (c_div pc L st h (c_bin (fun x y => x - x / y * y))) = some o from e)
    try unfold c_div at e
    try unfold c_go at e
    (repeat' split at e) <;> first | (cases e; exact ⟨_, rfl⟩) | cases e
  case ldiv =>
    left
    obtain ⟨-, e⟩ := c_if_ok (show c_if (len == 1) (c_divL pc L st h (c_binL (· / ·))) = some o from e)
    try unfold c_divL at e
    try unfold c_go at e
    (repeat' split at e) <;> first | (cases e; exact ⟨_, rfl⟩) | cases e
  case lrem =>
    left
    obtain ⟨-, e⟩ := c_if_ok (show c_if (len == 1) (c_divL pc L st h (c_binL (fun x y => x - x / y * y))) = some o from e)
    try unfold c_divL at e
    try unfold c_go at e
    (repeat' split at e) <;> first | (cases e; exact ⟨_, rfl⟩) | cases e
  case lcmp =>
    left
    obtain ⟨-, e⟩ := c_if_ok (show c_if (len == 1) (c_lcmp pc L st h) = some o from e)
    try unfold c_lcmp at e
    try unfold c_go at e
    (repeat' split at e) <;> first | (cases e; exact ⟨_, rfl⟩) | cases e
  case lshl =>
    left
    obtain ⟨-, e⟩ := c_if_ok (show c_if (len == 1) (c_opS pc L st h (fun a b => (Int64.ofInt a <<< ((Int32.ofInt b).toInt64 &&& 63)).toInt)) = some o from e)
    try unfold c_opS at e
    try unfold c_go at e
    (repeat' split at e) <;> first | (cases e; exact ⟨_, rfl⟩) | cases e
  case lshr =>
    left
    obtain ⟨-, e⟩ := c_if_ok (show c_if (len == 1) (c_opS pc L st h (fun a b => (Int64.ofInt a >>> ((Int32.ofInt b).toInt64 &&& 63)).toInt)) = some o from e)
    try unfold c_opS at e
    try unfold c_go at e
    (repeat' split at e) <;> first | (cases e; exact ⟨_, rfl⟩) | cases e
  case i2l =>
    left
    obtain ⟨-, e⟩ := c_if_ok (show c_if (len == 1) (c_un pc L st h 0 1 (fun a => a)) = some o from e)
    try unfold c_un at e
    try unfold c_go at e
    (repeat' split at e) <;> first | (cases e; exact ⟨_, rfl⟩) | cases e
  case l2i =>
    left
    obtain ⟨-, e⟩ := c_if_ok (show c_if (len == 1) (c_un pc L st h 1 0 (fun a => (Int64.ofInt a).toInt32.toInt)) = some o from e)
    try unfold c_un at e
    try unfold c_go at e
    (repeat' split at e) <;> first | (cases e; exact ⟨_, rfl⟩) | cases e
  case dup =>
    left
    obtain ⟨-, e⟩ := c_if_ok (show c_if (len == 1) (c_dup pc L st h) = some o from e)
    try unfold c_dup at e
    try unfold c_go at e
    (repeat' split at e) <;> first | (cases e; exact ⟨_, rfl⟩) | cases e
  case pop =>
    left
    obtain ⟨-, e⟩ := c_if_ok (show c_if (len == 1) (c_pop pc L st h) = some o from e)
    try unfold c_pop at e
    try unfold c_go at e
    (repeat' split at e) <;> first | (cases e; exact ⟨_, rfl⟩) | cases e
  case dup2 =>
    left
    obtain ⟨-, e⟩ := c_if_ok (show c_if (len == 1) (c_dup2 pc L st h) = some o from e)
    try unfold c_dup2 at e
    try unfold c_go at e
    (repeat' split at e) <;> first | (cases e; exact ⟨_, rfl⟩) | cases e
  case ifCond cn off =>
    left
    obtain ⟨-, e⟩ := c_if_ok (show c_if (len == 3) (c_if1 pc L st h cn off) = some o from e)
    try unfold c_if1 at e
    try unfold c_br at e
    (repeat' split at e) <;> first | (cases e; exact ⟨_, rfl⟩) | cases e
  case if_icmp cn off =>
    left
    obtain ⟨-, e⟩ := c_if_ok (show c_if (len == 3) (c_if2 pc L st h cn off) = some o from e)
    try unfold c_if2 at e
    try unfold c_br at e
    (repeat' split at e) <;> first | (cases e; exact ⟨_, rfl⟩) | cases e
  case goto off =>
    left
    obtain ⟨-, e⟩ := c_if_ok (show c_if (len == 3) (c_goto pc L st h off) = some o from e)
    try unfold c_goto at e
    (repeat' split at e) <;> first | (cases e; exact ⟨_, rfl⟩) | cases e
  case getfield idx =>
    left
    obtain ⟨-, e⟩ := c_if_ok (show c_if (len == 3) (c_getf P m pc L st h idx) = some o from e)
    try unfold c_getf at e
    try unfold c_go at e
    (repeat' split at e) <;> first | (cases e; exact ⟨_, rfl⟩) | cases e
  case putfield idx =>
    left
    obtain ⟨-, e⟩ := c_if_ok (show c_if (len == 3) (c_putf P m pc L st h idx) = some o from e)
    try unfold c_putf at e
    (repeat' split at e) <;> first | (cases e; exact ⟨_, rfl⟩) | cases e
  case iaload =>
    left
    obtain ⟨-, e⟩ := c_if_ok (show c_if (len == 1) (c_ald m pc L st h xs Ln 0 0) = some o from e)
    try unfold c_ald at e
    try unfold c_go at e
    (repeat' split at e) <;> first | (cases e; exact ⟨_, rfl⟩) | cases e
  case laload =>
    left
    obtain ⟨-, e⟩ := c_if_ok (show c_if (len == 1) (c_ald m pc L st h xs Ln 1 1) = some o from e)
    try unfold c_ald at e
    try unfold c_go at e
    (repeat' split at e) <;> first | (cases e; exact ⟨_, rfl⟩) | cases e
  case baload =>
    left
    obtain ⟨-, e⟩ := c_if_ok (show c_if (len == 1) (c_ald m pc L st h xs Ln 0 2) = some o from e)
    try unfold c_ald at e
    try unfold c_go at e
    (repeat' split at e) <;> first | (cases e; exact ⟨_, rfl⟩) | cases e
  case iastore =>
    left
    obtain ⟨-, e⟩ := c_if_ok (show c_if (len == 1) (c_ast pc L st h 0 0) = some o from e)
    try unfold c_ast at e
    (repeat' split at e) <;> first | (cases e; exact ⟨_, rfl⟩) | cases e
  case lastore =>
    left
    obtain ⟨-, e⟩ := c_if_ok (show c_if (len == 1) (c_ast pc L st h 1 1) = some o from e)
    try unfold c_ast at e
    (repeat' split at e) <;> first | (cases e; exact ⟨_, rfl⟩) | cases e
  case bastore =>
    left
    obtain ⟨-, e⟩ := c_if_ok (show c_if (len == 1) (c_ast pc L st h 0 2) = some o from e)
    try unfold c_ast at e
    (repeat' split at e) <;> first | (cases e; exact ⟨_, rfl⟩) | cases e
  case arraylength =>
    left
    obtain ⟨-, e⟩ := c_if_ok (show c_if (len == 1) (c_alen m pc L st h Ln) = some o from e)
    try unfold c_alen at e
    try unfold c_go at e
    (repeat' split at e) <;> first | (cases e; exact ⟨_, rfl⟩) | cases e
  case new idx =>
    left
    obtain ⟨-, e⟩ := c_if_ok (show c_if (len == 3) (c_newo P m pc L st h idx) = some o from e)
    try unfold c_newo at e
    (repeat' split at e) <;> first | (cases e; exact ⟨_, rfl⟩) | cases e
  case invokevirtual idx =>
    exact Or.inr (Or.inr ⟨idx, Or.inl rfl⟩)
  case invokespecial idx =>
    exact Or.inr (Or.inr ⟨idx, Or.inr (Or.inl rfl)⟩)
  case invokestatic idx =>
    exact Or.inr (Or.inr ⟨idx, Or.inr (Or.inr rfl)⟩)
  case ireturn =>
    exact Or.inr (Or.inl (Or.inl rfl))
  case lreturn =>
    exact Or.inr (Or.inl (Or.inr (Or.inl rfl)))
  case areturn =>
    exact Or.inr (Or.inl (Or.inr (Or.inr (Or.inl rfl))))
  case return_ =>
    exact Or.inr (Or.inl (Or.inr (Or.inr (Or.inr rfl))))
  case newarray at9 =>
    left
    obtain ⟨-, e⟩ := c_if_ok (show c_if (len == 2) (match (generalizing := false) at9 with | .int => c_newa pc L st h 0 | .long => c_newa pc L st h 1 | .boolean => c_newa pc L st h 2 | _ => none) = some o from e)
    unfold c_newa at e
    (repeat' split at e) <;> first | (cases e; exact ⟨_, rfl⟩) | cases e
  case tableswitch dflt lo hi offs =>
    left
    have e : c_sw pc L st h dflt lo hi offs.toList = some o := e
    unfold c_sw at e
    (repeat' split at e) <;> first | (cases e; exact ⟨_, rfl⟩) | cases e
  case lookupswitch dflt ps =>
    left
    have e : c_lsw pc L st h dflt ps.toList = some o := e
    unfold c_lsw at e
    (repeat' split at e) <;> first | (cases e; exact ⟨_, rfl⟩) | cases e
  all_goals exact absurd (show (none : Option cO) = some o from e) (by simp)
theorem c_own {cl : List vw_C} {P : xP} {m ci : Nat} {C : vw_C} (hOK : x_OK cl P) (hC : cl[ci]? = some C) (h1 : (x_nm P m).name = "<init>") (h2 : x_mci P m = ci) : C.1 = (x_nm P m).cls := hOK.2.2.2.2.2.2 m C h1 (by rw [h2]; exact hC)
section CM
variable {p : Program} {l : Launch} {e : Env} {R : Room} {s : State} {mid : MethodId} {args : Array Value} {below : List Frame} {meth : Method} {c : Code} {Q : State → Prop} {P : xP} {D : va_G} {cl : List vw_C} {B0 sc : Nat} {ad0 : List Nat} {n0 s0 : Nat}
  {m pc d : Nat} {L : List (Nat × cV)} {st : List cV} {h : cH} {xs : Nat → Int} {Ln : Nat}
set_option maxHeartbeats 4000000 in
/-- a plain instruction -/
theorem c_w_plain {i : Instr} {len : Nat} {q : cN} (hOK : x_OK cl P) (ctx : c_Ctx P B0 p R s mid args meth c m d) (hscr : m = 0 → c_Scr B0 sc xs Ln s) (hb1 : n0 ≤ h.1.length) (hb2 : s0 ≤ c_sz P h.1) (hb3 : q.2.2.2.1.length - n0 ≤ R.cells) (hb4 : c_sz P q.2.2.2.1 - s0 ≤ R.slots)
    (hd : decode (x_by P m) pc = .ok (i, len)) (hins : c_ins P m pc L st h xs Ln i len = some (.inl q)) (nx : c_OKs p l e R s mid args below meth c Q P D cl B0 sc (x_maxL P m) ad0 n0 s0 q.1 q.2.1 q.2.2.1 q.2.2.2) : c_OKs p l e R s mid args below meth c Q P D cl B0 sc (x_maxL P m) ad0 n0 s0 pc L st h := by
  obtain ⟨hx, hb, hrt, hml, hown, hts, hnest, hlocks, hnm, hB, hR1, hR2⟩ := ctx
  cases i
  case iconst z =>
    obtain ⟨b1, b2⟩ := c_if_ok (show c_if (len == 1) (c_go pc h 1 L ((0, (Int32.ofInt z).toInt) :: st)) = some (.inl q) from hins)
    cases x_len b1
    cases b2
    exact c_w_push (n := 1) (fun k => lv_iconst hx hb hd rfl k) (fun _ => c_val.mkI rfl) nx
  case bipush z =>
    obtain ⟨b1, b2⟩ := c_if_ok (show c_if (len == 2) (c_go pc h 2 L ((0, (Int8.ofInt z).toInt32.toInt) :: st)) = some (.inl q) from hins)
    cases x_len b1
    cases b2
    exact c_w_push (n := 2) (fun k => lv_bipush hx hb hd rfl k) (fun _ => c_val.mkI rfl) nx
  case sipush z =>
    obtain ⟨b1, b2⟩ := c_if_ok (show c_if (len == 3) (c_go pc h 3 L ((0, (Int16.ofInt z).toInt32.toInt) :: st)) = some (.inl q) from hins)
    cases x_len b1
    cases b2
    exact c_w_push (n := 3) (fun k => lv_sipush hx hb hd rfl k) (fun _ => c_val.mkI rfl) nx
  case lconst z =>
    obtain ⟨b1, b2⟩ := c_if_ok (show c_if (len == 1) (c_go pc h 1 L ((1, (Int64.ofNat (z : Nat)).toInt) :: st)) = some (.inl q) from hins)
    cases x_len b1
    cases b2
    exact c_w_push (n := 1) (fun k => lv_lconst hx hb hd rfl k) (fun _ => c_val.mkL rfl) nx
  case ldc idx =>
    obtain ⟨b1, b2⟩ := c_if_ok (show c_if (len == 2) (match (generalizing := false) x_pool P m idx with | (7, _, c) => c_go pc h 2 L ((0, c) :: st) | _ => none) = some (.inl q) from hins)
    cases x_len b1
    have hpool := hOK.2.2.1 m idx
    split at b2
    · next z1 z2 hp =>
        rw [hp] at hpool
        obtain ⟨v, q1, q2⟩ := hpool
        cases b2
        exact c_w_push (n := 2) (fun k => lv_ldc hx hb hown (hts _ q1) hd k) (fun _ => c_val.mkI q2) nx
    · cases b2
  case ldc_w idx =>
    obtain ⟨b1, b2⟩ := c_if_ok (show c_if (len == 3) (match (generalizing := false) x_pool P m idx with | (7, _, c) => c_go pc h 3 L ((0, c) :: st) | _ => none) = some (.inl q) from hins)
    cases x_len b1
    have hpool := hOK.2.2.1 m idx
    split at b2
    · next z1 z2 hp =>
        rw [hp] at hpool
        obtain ⟨v, q1, q2⟩ := hpool
        cases b2
        exact c_w_push (n := 3) (fun k => lv_ldcw hx hb hown (hts _ q1) hd k) (fun _ => c_val.mkI q2) nx
    · cases b2
  case ldc2_w idx =>
    obtain ⟨b1, b2⟩ := c_if_ok (show c_if (len == 3) (match (generalizing := false) x_pool P m idx with | (8, _, c) => c_go pc h 3 L ((1, c) :: st) | _ => none) = some (.inl q) from hins)
    cases x_len b1
    have hpool := hOK.2.2.1 m idx
    split at b2
    · next z1 z2 hp =>
        rw [hp] at hpool
        obtain ⟨v, q1, q2⟩ := hpool
        cases b2
        exact c_w_push (n := 3) (fun k => lv_ldc2 hx hb hown (hts _ q1) hd k) (fun _ => c_val.mkL q2) nx
    · cases b2
  case iload z =>
    obtain ⟨b1, b2⟩ := c_if_ok (show c_if (len == 2) (c_ld pc L st h 2 0 z) = some (.inl q) from hins)
    cases x_len b1
    unfold c_ld at b2
    split at b2
    · next v hv =>
        split at b2
        · next ht =>
            cases b2
            refine c_w_load (n := 2) hv (fun {x ad H locs ls rest a b} g hl k => ?_) nx
            obtain ⟨a9, rfl, -⟩ := g.int ht
            exact lv_iload hx hb hd hl k
        · cases b2
    · cases b2
  case iload_n z =>
    obtain ⟨b1, b2⟩ := c_if_ok (show c_if (len == 1) (c_ld pc L st h 1 0 (z : Nat)) = some (.inl q) from hins)
    cases x_len b1
    unfold c_ld at b2
    split at b2
    · next v hv =>
        split at b2
        · next ht =>
            cases b2
            refine c_w_load (n := 1) hv (fun {x ad H locs ls rest a b} g hl k => ?_) nx
            obtain ⟨a9, rfl, -⟩ := g.int ht
            exact lv_iload_n hx hb hd rfl hl k
        · cases b2
    · cases b2
  case lload z =>
    obtain ⟨b1, b2⟩ := c_if_ok (show c_if (len == 2) (c_ld pc L st h 2 1 z) = some (.inl q) from hins)
    cases x_len b1
    unfold c_ld at b2
    split at b2
    · next v hv =>
        split at b2
        · next ht =>
            cases b2
            refine c_w_load (n := 2) hv (fun {x ad H locs ls rest a b} g hl k => ?_) nx
            obtain ⟨a9, rfl, -⟩ := g.long ht
            exact lv_lload hx hb hd hl k
        · cases b2
    · cases b2
  case lload_n z =>
    obtain ⟨b1, b2⟩ := c_if_ok (show c_if (len == 1) (c_ld pc L st h 1 1 (z : Nat)) = some (.inl q) from hins)
    cases x_len b1
    unfold c_ld at b2
    split at b2
    · next v hv =>
        split at b2
        · next ht =>
            cases b2
            refine c_w_load (n := 1) hv (fun {x ad H locs ls rest a b} g hl k => ?_) nx
            obtain ⟨a9, rfl, -⟩ := g.long ht
            exact lv_lload_n hx hb hd rfl hl k
        · cases b2
    · cases b2
  case aload z =>
    obtain ⟨b1, b2⟩ := c_if_ok (show c_if (len == 2) (c_lda pc L st h 2 z) = some (.inl q) from hins)
    cases x_len b1
    unfold c_lda at b2
    split at b2
    · next v hv =>
        split at b2
        · next ht =>
            cases b2
            refine c_w_load (n := 2) hv (fun {x ad H locs ls rest a b} g hl k => ?_) nx
            have hx9 : ∃ a, x = .ref a := by
              obtain ⟨t9, c9⟩ := v
              rcases ht with ht | ht
              · have ht : t9 = 3 := ht
                subst ht
                obtain ⟨-, a, g1, -⟩ := g
                exact ⟨a, g1⟩
              · have ht : t9 = 4 := ht
                subst ht
                exact ⟨sc, g⟩
            obtain ⟨a9, rfl⟩ := hx9
            exact lv_aload hx hb hd hl k
        · cases b2
    · cases b2
  case aload_n z =>
    obtain ⟨b1, b2⟩ := c_if_ok (show c_if (len == 1) (c_lda pc L st h 1 (z : Nat)) = some (.inl q) from hins)
    cases x_len b1
    unfold c_lda at b2
    split at b2
    · next v hv =>
        split at b2
        · next ht =>
            cases b2
            refine c_w_load (n := 1) hv (fun {x ad H locs ls rest a b} g hl k => ?_) nx
            have hx9 : ∃ a, x = .ref a := by
              obtain ⟨t9, c9⟩ := v
              rcases ht with ht | ht
              · have ht : t9 = 3 := ht
                subst ht
                obtain ⟨-, a, g1, -⟩ := g
                exact ⟨a, g1⟩
              · have ht : t9 = 4 := ht
                subst ht
                exact ⟨sc, g⟩
            obtain ⟨a9, rfl⟩ := hx9
            exact lv_aload_n hx hb hd rfl hl k
        · cases b2
    · cases b2
  case istore z =>
    obtain ⟨b1, b2⟩ := c_if_ok (show c_if (len == 2) (c_st P m pc L st h 2 0 z) = some (.inl q) from hins)
    cases x_len b1
    unfold c_st at b2
    split at b2
    · next v r =>
        split at b2
        · next ht =>
            cases b2
            refine c_w_store1 (n := 2) (i := z) (fun {x ad H locs ls rest lv lv' a b} g hl hl2 k => ?_) nx
            obtain ⟨a9, rfl, -⟩ := g.int ht.1
            exact lv_istore hx hb hd hl ht.2 hl2 k
        · cases b2
    · cases b2
  case istore_n z =>
    obtain ⟨b1, b2⟩ := c_if_ok (show c_if (len == 1) (c_st P m pc L st h 1 0 (z : Nat)) = some (.inl q) from hins)
    cases x_len b1
    unfold c_st at b2
    split at b2
    · next v r =>
        split at b2
        · next ht =>
            cases b2
            refine c_w_store1 (n := 1) (i := (z : Nat)) (fun {x ad H locs ls rest lv lv' a b} g hl hl2 k => ?_) nx
            obtain ⟨a9, rfl, -⟩ := g.int ht.1
            exact lv_istore_n hx hb hd rfl hl ht.2 hl2 k
        · cases b2
    · cases b2
  case astore z =>
    obtain ⟨b1, b2⟩ := c_if_ok (show c_if (len == 2) (c_st P m pc L st h 2 3 z) = some (.inl q) from hins)
    cases x_len b1
    unfold c_st at b2
    split at b2
    · next v r =>
        split at b2
        · next ht =>
            cases b2
            refine c_w_store1 (n := 2) (i := z) (fun {x ad H locs ls rest lv lv' a b} g hl hl2 k => ?_) nx
            obtain ⟨a9, rfl, -⟩ := g.ref ht.1
            exact lv_astore hx hb hd hl ht.2 hl2 k
        · cases b2
    · cases b2
  case astore_n z =>
    obtain ⟨b1, b2⟩ := c_if_ok (show c_if (len == 1) (c_st P m pc L st h 1 3 (z : Nat)) = some (.inl q) from hins)
    cases x_len b1
    unfold c_st at b2
    split at b2
    · next v r =>
        split at b2
        · next ht =>
            cases b2
            refine c_w_store1 (n := 1) (i := (z : Nat)) (fun {x ad H locs ls rest lv lv' a b} g hl hl2 k => ?_) nx
            obtain ⟨a9, rfl, -⟩ := g.ref ht.1
            exact lv_astore_n hx hb hd rfl hl ht.2 hl2 k
        · cases b2
    · cases b2
  case lstore z =>
    obtain ⟨b1, b2⟩ := c_if_ok (show c_if (len == 2) (c_stL P m pc L st h 2 z) = some (.inl q) from hins)
    cases x_len b1
    unfold c_stL at b2
    split at b2
    · next v r =>
        split at b2
        · next ht =>
            cases b2
            refine c_w_store2 (n := 2) (i := z) (fun {x ad H locs ls rest lv lv' a b} g hl hl2 k => ?_) nx
            obtain ⟨a9, rfl, -⟩ := g.long ht.1
            exact lv_lstore hx hb hd hl ht.2 hl2 k
        · cases b2
    · cases b2
  case lstore_n z =>
    obtain ⟨b1, b2⟩ := c_if_ok (show c_if (len == 1) (c_stL P m pc L st h 1 (z : Nat)) = some (.inl q) from hins)
    cases x_len b1
    unfold c_stL at b2
    split at b2
    · next v r =>
        split at b2
        · next ht =>
            cases b2
            refine c_w_store2 (n := 1) (i := (z : Nat)) (fun {x ad H locs ls rest lv lv' a b} g hl hl2 k => ?_) nx
            obtain ⟨a9, rfl, -⟩ := g.long ht.1
            exact lv_lstore_n hx hb hd rfl hl ht.2 hl2 k
        · cases b2
    · cases b2
  case iinc z zc =>
    obtain ⟨b1, b2⟩ := c_if_ok (show c_if (len == 3) (c_iinc P m pc L st h z zc) = some (.inl q) from hins)
    cases x_len b1
    unfold c_iinc at b2
    split at b2
    · next v hv =>
        split at b2
        · next ht =>
            cases b2
            exact c_w_iinc hx hb hd hv ht.1 ht.2 nx
        · cases b2
    · cases b2
  case iadd =>
    obtain ⟨b1, b2⟩ := c_if_ok (show c_if (len == 1) (c_op2 pc L st h (c_bin (· + ·))) = some (.inl q) from hins)
    cases x_len b1
    unfold c_op2 at b2
    split at b2
    · next w v r =>
        split at b2
        · next ht =>
            cases b2
            refine c_w_two (n := 1) (fun {x y ad H locs ls rest a b} g1 g2 => ?_) (Or.inr (by decide)) nx
            obtain ⟨x9, rfl, e1⟩ := g1.int ht.1
            obtain ⟨y9, rfl, e2⟩ := g2.int ht.2
            exact ⟨_, c_val.mkI (c_bin_ok (op := (· + ·)) e1 e2), fun _ _ k => lv_iadd hx hb hd k⟩
        · cases b2
    · cases b2
  case isub =>
    obtain ⟨b1, b2⟩ := c_if_ok (show c_if (len == 1) (c_op2 pc L st h (c_bin (· - ·))) = some (.inl q) from hins)
    cases x_len b1
    unfold c_op2 at b2
    split at b2
    · next w v r =>
        split at b2
        · next ht =>
            cases b2
            refine c_w_two (n := 1) (fun {x y ad H locs ls rest a b} g1 g2 => ?_) (Or.inr (by decide)) nx
            obtain ⟨x9, rfl, e1⟩ := g1.int ht.1
            obtain ⟨y9, rfl, e2⟩ := g2.int ht.2
            exact ⟨_, c_val.mkI (c_bin_ok (op := (· - ·)) e1 e2), fun _ _ k => lv_isub hx hb hd k⟩
        · cases b2
    · cases b2
  case imul =>
    obtain ⟨b1, b2⟩ := c_if_ok (show c_if (len == 1) (c_op2 pc L st h (c_bin (· * ·))) = some (.inl q) from hins)
    cases x_len b1
    unfold c_op2 at b2
    split at b2
    · next w v r =>
        split at b2
        · next ht =>
            cases b2
            refine c_w_two (n := 1) (fun {x y ad H locs ls rest a b} g1 g2 => ?_) (Or.inr (by decide)) nx
            obtain ⟨x9, rfl, e1⟩ := g1.int ht.1
            obtain ⟨y9, rfl, e2⟩ := g2.int ht.2
            exact ⟨_, c_val.mkI (c_bin_ok (op := (· * ·)) e1 e2), fun _ _ k => lv_imul hx hb hd k⟩
        · cases b2
    · cases b2
  case iand =>
    obtain ⟨b1, b2⟩ := c_if_ok (show c_if (len == 1) (c_op2 pc L st h (c_bin (· &&& ·))) = some (.inl q) from hins)
    cases x_len b1
    unfold c_op2 at b2
    split at b2
    · next w v r =>
        split at b2
        · next ht =>
            cases b2
            refine c_w_two (n := 1) (fun {x y ad H locs ls rest a b} g1 g2 => ?_) (Or.inr (by decide)) nx
            obtain ⟨x9, rfl, e1⟩ := g1.int ht.1
            obtain ⟨y9, rfl, e2⟩ := g2.int ht.2
            exact ⟨_, c_val.mkI (c_bin_ok (op := (· &&& ·)) e1 e2), fun _ _ k => lv_iand hx hb hd k⟩
        · cases b2
    · cases b2
  case ior =>
    obtain ⟨b1, b2⟩ := c_if_ok (show c_if (len == 1) (c_op2 pc L st h (c_bin (· ||| ·))) = some (.inl q) from hins)
    cases x_len b1
    unfold c_op2 at b2
    split at b2
    · next w v r =>
        split at b2
        · next ht =>
            cases b2
            refine c_w_two (n := 1) (fun {x y ad H locs ls rest a b} g1 g2 => ?_) (Or.inr (by decide)) nx
            obtain ⟨x9, rfl, e1⟩ := g1.int ht.1
            obtain ⟨y9, rfl, e2⟩ := g2.int ht.2
            exact ⟨_, c_val.mkI (c_bin_ok (op := (· ||| ·)) e1 e2), fun _ _ k => lv_ior hx hb hd k⟩
        · cases b2
    · cases b2
  case ixor =>
    obtain ⟨b1, b2⟩ := c_if_ok (show c_if (len == 1) (c_op2 pc L st h (c_bin (· ^^^ ·))) = some (.inl q) from hins)
    cases x_len b1
    unfold c_op2 at b2
    split at b2
    · next w v r =>
        split at b2
        · next ht =>
            cases b2
            refine c_w_two (n := 1) (fun {x y ad H locs ls rest a b} g1 g2 => ?_) (Or.inr (by decide)) nx
            obtain ⟨x9, rfl, e1⟩ := g1.int ht.1
            obtain ⟨y9, rfl, e2⟩ := g2.int ht.2
            exact ⟨_, c_val.mkI (c_bin_ok (op := (· ^^^ ·)) e1 e2), fun _ _ k => lv_ixor hx hb hd k⟩
        · cases b2
    · cases b2
  case ishl =>
    obtain ⟨b1, b2⟩ := c_if_ok (show c_if (len == 1) (c_op2 pc L st h (c_bin (fun x y => x <<< (y &&& 31)))) = some (.inl q) from hins)
    cases x_len b1
    unfold c_op2 at b2
    split at b2
    · next w v r =>
        split at b2
        · next ht =>
            cases b2
            refine c_w_two (n := 1) (fun {x y ad H locs ls rest a b} g1 g2 => ?_) (Or.inr (by decide)) nx
            obtain ⟨x9, rfl, e1⟩ := g1.int ht.1
            obtain ⟨y9, rfl, e2⟩ := g2.int ht.2
            exact ⟨_, c_val.mkI (c_bin_ok (op := (fun x y => x <<< (y &&& 31))) e1 e2), fun _ _ k => lv_ishl hx hb hd k⟩
        · cases b2
    · cases b2
  case ishr =>
    obtain ⟨b1, b2⟩ := c_if_ok (show c_if (len == 1) (c_op2 pc L st h (c_bin (fun x y => x >>> (y &&& 31)))) = some (.inl q) from hins)
    cases x_len b1
    unfold c_op2 at b2
    split at b2
    · next w v r =>
        split at b2
        · next ht =>
            cases b2
            refine c_w_two (n := 1) (fun {x y ad H locs ls rest a b} g1 g2 => ?_) (Or.inr (by decide)) nx
            obtain ⟨x9, rfl, e1⟩ := g1.int ht.1
            obtain ⟨y9, rfl, e2⟩ := g2.int ht.2
            exact ⟨_, c_val.mkI (c_bin_ok (op := (fun x y => x >>> (y &&& 31))) e1 e2), fun _ _ k => lv_ishr hx hb hd k⟩
        · cases b2
    · cases b2
  case iushr =>
    obtain ⟨b1, b2⟩ := c_if_ok (show c_if (len == 1) (c_op2 pc L st h (c_bin (fun x y => (x.toUInt32 >>> (y.toUInt32 &&& Int32.toUInt32 31)).toInt32))) = some (.inl q) from hins)
    cases x_len b1
    unfold c_op2 at b2
    split at b2
    · next w v r =>
        split at b2
        · next ht =>
            cases b2
            refine c_w_two (n := 1) (fun {x y ad H locs ls rest a b} g1 g2 => ?_) (Or.inr (by decide)) nx
            obtain ⟨x9, rfl, e1⟩ := g1.int ht.1
            obtain ⟨y9, rfl, e2⟩ := g2.int ht.2
            exact ⟨_, c_val.mkI (c_bin_ok (op := (fun x y => (x.toUInt32 >>> (y.toUInt32 &&& Int32.toUInt32 31)).toInt32)) e1 e2), fun _ _ k => lv_iushr hx hb hd rfl k⟩
        · cases b2
    · cases b2
  case ladd =>
    obtain ⟨b1, b2⟩ := c_if_ok (show c_if (len == 1) (c_opL pc L st h (c_binL (· + ·))) = some (.inl q) from hins)
    cases x_len b1
    unfold c_opL at b2
    split at b2
    · next w v r =>
        split at b2
        · next ht =>
            cases b2
            refine c_w_two (n := 1) (fun {x y ad H locs ls rest a b} g1 g2 => ?_) (Or.inr (by decide)) nx
            obtain ⟨x9, rfl, e1⟩ := g1.long ht.1
            obtain ⟨y9, rfl, e2⟩ := g2.long ht.2
            exact ⟨_, c_val.mkL (c_binL_ok (op := (· + ·)) e1 e2), fun _ _ k => lv_ladd hx hb hd k⟩
        · cases b2
    · cases b2
  case lsub =>
    obtain ⟨b1, b2⟩ := c_if_ok (show c_if (len == 1) (c_opL pc L st h (c_binL (· - ·))) = some (.inl q) from hins)
    cases x_len b1
    unfold c_opL at b2
    split at b2
    · next w v r =>
        split at b2
        · next ht =>
            cases b2
            refine c_w_two (n := 1) (fun {x y ad H locs ls rest a b} g1 g2 => ?_) (Or.inr (by decide)) nx
            obtain ⟨x9, rfl, e1⟩ := g1.long ht.1
            obtain ⟨y9, rfl, e2⟩ := g2.long ht.2
            exact ⟨_, c_val.mkL (c_binL_ok (op := (· - ·)) e1 e2), fun _ _ k => lv_lsub hx hb hd k⟩
        · cases b2
    · cases b2
  case lmul =>
    obtain ⟨b1, b2⟩ := c_if_ok (show c_if (len == 1) (c_opL pc L st h (c_binL (· * ·))) = some (.inl q) from hins)
    cases x_len b1
    unfold c_opL at b2
    split at b2
    · next w v r =>
        split at b2
        · next ht =>
            cases b2
            refine c_w_two (n := 1) (fun {x y ad H locs ls rest a b} g1 g2 => ?_) (Or.inr (by decide)) nx
            obtain ⟨x9, rfl, e1⟩ := g1.long ht.1
            obtain ⟨y9, rfl, e2⟩ := g2.long ht.2
            exact ⟨_, c_val.mkL (c_binL_ok (op := (· * ·)) e1 e2), fun _ _ k => lv_lmul hx hb hd k⟩
        · cases b2
    · cases b2
  case land =>
    obtain ⟨b1, b2⟩ := c_if_ok (show c_if (len == 1) (c_opL pc L st h (c_binL (· &&& ·))) = some (.inl q) from hins)
    cases x_len b1
    unfold c_opL at b2
    split at b2
    · next w v r =>
        split at b2
        · next ht =>
            cases b2
            refine c_w_two (n := 1) (fun {x y ad H locs ls rest a b} g1 g2 => ?_) (Or.inr (by decide)) nx
            obtain ⟨x9, rfl, e1⟩ := g1.long ht.1
            obtain ⟨y9, rfl, e2⟩ := g2.long ht.2
            exact ⟨_, c_val.mkL (c_binL_ok (op := (· &&& ·)) e1 e2), fun _ _ k => lv_land hx hb hd k⟩
        · cases b2
    · cases b2
  case lor =>
    obtain ⟨b1, b2⟩ := c_if_ok (show c_if (len == 1) (c_opL pc L st h (c_binL (· ||| ·))) = some (.inl q) from hins)
    cases x_len b1
    unfold c_opL at b2
    split at b2
    · next w v r =>
        split at b2
        · next ht =>
            cases b2
            refine c_w_two (n := 1) (fun {x y ad H locs ls rest a b} g1 g2 => ?_) (Or.inr (by decide)) nx
            obtain ⟨x9, rfl, e1⟩ := g1.long ht.1
            obtain ⟨y9, rfl, e2⟩ := g2.long ht.2
            exact ⟨_, c_val.mkL (c_binL_ok (op := (· ||| ·)) e1 e2), fun _ _ k => lv_lor hx hb hd k⟩
        · cases b2
    · cases b2
  case lxor =>
    obtain ⟨b1, b2⟩ := c_if_ok (show c_if (len == 1) (c_opL pc L st h (c_binL (· ^^^ ·))) = some (.inl q) from hins)
    cases x_len b1
    unfold c_opL at b2
    split at b2
    · next w v r =>
        split at b2
        · next ht =>
            cases b2
            refine c_w_two (n := 1) (fun {x y ad H locs ls rest a b} g1 g2 => ?_) (Or.inr (by decide)) nx
            obtain ⟨x9, rfl, e1⟩ := g1.long ht.1
            obtain ⟨y9, rfl, e2⟩ := g2.long ht.2
            exact ⟨_, c_val.mkL (c_binL_ok (op := (· ^^^ ·)) e1 e2), fun _ _ k => lv_lxor hx hb hd k⟩
        · cases b2
    · cases b2
  case idiv =>
    obtain ⟨b1, b2⟩ := c_if_ok (show c_if (len == 1) (c_div pc L st h (c_bin (· / ·))) = some (.inl q) from hins)
    cases x_len b1
    unfold c_div at b2
    split at b2
    · next w v r =>
        split at b2
        · next ht =>
            cases b2
            refine c_w_two (n := 1) (fun {x y ad H locs ls rest a b} g1 g2 => ?_) (Or.inr (by decide)) nx
            obtain ⟨x9, rfl, e1⟩ := g1.int ht.1
            obtain ⟨y9, rfl, e2⟩ := g2.int ht.2.1
            exact ⟨_, c_val.mkI (c_bin_ok (op := (· / ·)) e1 e2), fun _ _ k => lv_idiv hx hb hd (fun z => ht.2.2 (by rw [← e2, z]; rfl)) k⟩
        · cases b2
    · cases b2
  case irem =>
    obtain ⟨b1, b2⟩ := c_if_ok (show c_if (len == 1) (c_div pc L st h (c_bin (fun x y => x - x / y * y))) = some (.inl q) from hins)
    cases x_len b1
    unfold c_div at b2
    split at b2
    · next w v r =>
        split at b2
        · next ht =>
            cases b2
            refine c_w_two (n := 1) (fun {x y ad H locs ls rest a b} g1 g2 => ?_) (Or.inr (by decide)) nx
            obtain ⟨x9, rfl, e1⟩ := g1.int ht.1
            obtain ⟨y9, rfl, e2⟩ := g2.int ht.2.1
            exact ⟨_, c_val.mkI (c_bin_ok (op := (fun x y => x - x / y * y)) e1 e2), fun _ _ k => lv_irem hx hb hd (fun z => ht.2.2 (by rw [← e2, z]; rfl)) k⟩
        · cases b2
    · cases b2
  case ldiv =>
    obtain ⟨b1, b2⟩ := c_if_ok (show c_if (len == 1) (c_divL pc L st h (c_binL (· / ·))) = some (.inl q) from hins)
    cases x_len b1
    unfold c_divL at b2
    split at b2
    · next w v r =>
        split at b2
        · next ht =>
            cases b2
            refine c_w_two (n := 1) (fun {x y ad H locs ls rest a b} g1 g2 => ?_) (Or.inr (by decide)) nx
            obtain ⟨x9, rfl, e1⟩ := g1.long ht.1
            obtain ⟨y9, rfl, e2⟩ := g2.long ht.2.1
            exact ⟨_, c_val.mkL (c_binL_ok (op := (· / ·)) e1 e2), fun _ _ k => lv_ldiv hx hb hd (fun z => ht.2.2 (by rw [← e2, z]; rfl)) k⟩
        · cases b2
    · cases b2
  case lrem =>
    obtain ⟨b1, b2⟩ := c_if_ok (show c_if (len == 1) (c_divL pc L st h (c_binL (fun x y => x - x / y * y))) = some (.inl q) from hins)
    cases x_len b1
    unfold c_divL at b2
    split at b2
    · next w v r =>
        split at b2
        · next ht =>
            cases b2
            refine c_w_two (n := 1) (fun {x y ad H locs ls rest a b} g1 g2 => ?_) (Or.inr (by decide)) nx
            obtain ⟨x9, rfl, e1⟩ := g1.long ht.1
            obtain ⟨y9, rfl, e2⟩ := g2.long ht.2.1
            exact ⟨_, c_val.mkL (c_binL_ok (op := (fun x y => x - x / y * y)) e1 e2), fun _ _ k => lv_lrem hx hb hd (fun z => ht.2.2 (by rw [← e2, z]; rfl)) k⟩
        · cases b2
    · cases b2
  case lcmp =>
    obtain ⟨b1, b2⟩ := c_if_ok (show c_if (len == 1) (c_lcmp pc L st h) = some (.inl q) from hins)
    cases x_len b1
    unfold c_lcmp at b2
    split at b2
    · next w v r =>
        split at b2
        · next ht =>
            cases b2
            refine c_w_two (n := 1) (fun {x y ad H locs ls rest a b} g1 g2 => ?_) (Or.inr (by decide)) nx
            obtain ⟨x9, rfl, e1⟩ := g1.long ht.1
            obtain ⟨y9, rfl, e2⟩ := g2.long ht.2
            exact ⟨_, c_val.mkI (n := lg_cmp x9 y9) (by rw [x_of64 e1, x_of64 e2]), fun _ _ k => W.lcmp hx hb hd k⟩
        · cases b2
    · cases b2
  case lshl =>
    obtain ⟨b1, b2⟩ := c_if_ok (show c_if (len == 1) (c_opS pc L st h (fun a b => (Int64.ofInt a <<< ((Int32.ofInt b).toInt64 &&& 63)).toInt)) = some (.inl q) from hins)
    cases x_len b1
    unfold c_opS at b2
    split at b2
    · next w v r =>
        split at b2
        · next ht =>
            cases b2
            refine c_w_two (n := 1) (fun {x y ad H locs ls rest a b} g1 g2 => ?_) (Or.inr (by decide)) nx
            obtain ⟨x9, rfl, e1⟩ := g1.long ht.1
            obtain ⟨y9, rfl, e2⟩ := g2.int ht.2
            exact ⟨_, c_val.mkL (n := x9 <<< (y9.toInt64 &&& 63)) (by dsimp only; rw [x_of64 e1, x_of32 e2]), fun _ _ k => lv_lshl hx hb hd rfl k⟩
        · cases b2
    · cases b2
  case lshr =>
    obtain ⟨b1, b2⟩ := c_if_ok (show c_if (len == 1) (c_opS pc L st h (fun a b => (Int64.ofInt a >>> ((Int32.ofInt b).toInt64 &&& 63)).toInt)) = some (.inl q) from hins)
    cases x_len b1
    unfold c_opS at b2
    split at b2
    · next w v r =>
        split at b2
        · next ht =>
            cases b2
            refine c_w_two (n := 1) (fun {x y ad H locs ls rest a b} g1 g2 => ?_) (Or.inr (by decide)) nx
            obtain ⟨x9, rfl, e1⟩ := g1.long ht.1
            obtain ⟨y9, rfl, e2⟩ := g2.int ht.2
            exact ⟨_, c_val.mkL (n := x9 >>> (y9.toInt64 &&& 63)) (by dsimp only; rw [x_of64 e1, x_of32 e2]), fun _ _ k => lv_lshr hx hb hd rfl k⟩
        · cases b2
    · cases b2
  case i2l =>
    obtain ⟨b1, b2⟩ := c_if_ok (show c_if (len == 1) (c_un pc L st h 0 1 (fun a => a)) = some (.inl q) from hins)
    cases x_len b1
    unfold c_un at b2
    split at b2
    · next v r =>
        split at b2
        · next ht =>
            cases b2
            refine c_w_one (fun {x ad H locs ls rest a b} g1 => ?_) nx
            obtain ⟨x9, rfl, e1⟩ := g1.int ht
            exact ⟨_, c_val.mkL (n := x9.toInt64) (by rw [Int32.toInt_toInt64]; exact e1), fun k => lv_i2l hx hb hd rfl k⟩
        · cases b2
    · cases b2
  case l2i =>
    obtain ⟨b1, b2⟩ := c_if_ok (show c_if (len == 1) (c_un pc L st h 1 0 (fun a => (Int64.ofInt a).toInt32.toInt)) = some (.inl q) from hins)
    cases x_len b1
    unfold c_un at b2
    split at b2
    · next v r =>
        split at b2
        · next ht =>
            cases b2
            refine c_w_one (fun {x ad H locs ls rest a b} g1 => ?_) nx
            obtain ⟨x9, rfl, e1⟩ := g1.long ht
            exact ⟨_, c_val.mkI (n := x9.toInt32) (by dsimp only; rw [x_of64 e1]), fun k => lv_l2i hx hb hd rfl k⟩
        · cases b2
    · cases b2
  case dup =>
    obtain ⟨b1, b2⟩ := c_if_ok (show c_if (len == 1) (c_dup pc L st h) = some (.inl q) from hins)
    cases x_len b1
    unfold c_dup at b2
    split at b2
    · next v r =>
        split at b2
        · next ht =>
            cases b2
            exact c_w_dup hx hb hd ht nx
        · cases b2
    · cases b2
  case pop =>
    obtain ⟨b1, b2⟩ := c_if_ok (show c_if (len == 1) (c_pop pc L st h) = some (.inl q) from hins)
    cases x_len b1
    unfold c_pop at b2
    split at b2
    · next v r =>
        split at b2
        · next ht =>
            cases b2
            exact c_w_pop hx hb hd ht nx
        · cases b2
    · cases b2
  case dup2 =>
    obtain ⟨b1, b2⟩ := c_if_ok (show c_if (len == 1) (c_dup2 pc L st h) = some (.inl q) from hins)
    cases x_len b1
    unfold c_dup2 at b2
    split at b2
    · next v w r =>
        split at b2
        · next ht =>
            cases b2
            exact c_w_dup2 hx hb hd ht.1 ht.2 nx
        · cases b2
    · cases b2
  case ifCond cn off =>
    obtain ⟨b1, b2⟩ := c_if_ok (show c_if (len == 3) (c_if1 pc L st h cn off) = some (.inl q) from hins)
    cases x_len b1
    unfold c_if1 at b2
    split at b2
    · next v r =>
        unfold c_br at b2
        split at b2
        · next ht =>
            cases b2
            exact c_w_ifc hx hb hd ht.2.2 ht.1 nx
        · cases b2
    · cases b2
  case if_icmp cn off =>
    obtain ⟨b1, b2⟩ := c_if_ok (show c_if (len == 3) (c_if2 pc L st h cn off) = some (.inl q) from hins)
    cases x_len b1
    unfold c_if2 at b2
    split at b2
    · next w v r =>
        unfold c_br at b2
        split at b2
        · next ht =>
            cases b2
            exact c_w_icmp hx hb hd ht.2.2 ht.1 ht.2.1 nx
        · cases b2
    · cases b2
  case goto off =>
    obtain ⟨b1, b2⟩ := c_if_ok (show c_if (len == 3) (c_goto pc L st h off) = some (.inl q) from hins)
    cases x_len b1
    unfold c_goto at b2
    split at b2
    · next ht =>
        cases b2
        exact c_w_goto hx hb hd ht nx
    · cases b2
  case tableswitch dflt lo hi offs =>
    have b2 : c_sw pc L st h dflt lo hi offs.toList = some (.inl q) := hins
    unfold c_sw at b2
    split at b2
    · next v r =>
        split at b2
        · next ht =>
            cases b2
            exact c_w_sw hx hb hd ht.1 ht.2.1 ht.2.2 nx
        · cases b2
    · cases b2
  case lookupswitch dflt ps =>
    have b2 : c_lsw pc L st h dflt ps.toList = some (.inl q) := hins
    unfold c_lsw at b2
    split at b2
    · next v r =>
        split at b2
        · next ht =>
            cases b2
            exact c_w_lsw hx hb hd ht.1 ht.2.1 ht.2.2 nx
        · cases b2
    · cases b2
  case getfield idx =>
    obtain ⟨b1, b2⟩ := c_if_ok (show c_if (len == 3) (c_getf P m pc L st h idx) = some (.inl q) from hins)
    cases x_len b1
    unfold c_getf at b2
    split at b2
    · next k9 r =>
        split at b2
        · next ci f ci2 hp ho =>
            split at b2
            · next hc =>
                subst hc
                split at b2
                · next kd hkd =>
                    cases b2
                    have hpool := hOK.2.2.1 m idx
                    rw [hp] at hpool
                    exact c_w_get hx hb hown hts hOK.2.1 hpool hd ho hkd nx
                · cases b2
            · cases b2
        · cases b2
    · cases b2
  case putfield idx =>
    obtain ⟨b1, b2⟩ := c_if_ok (show c_if (len == 3) (c_putf P m pc L st h idx) = some (.inl q) from hins)
    cases x_len b1
    unfold c_putf at b2
    split at b2
    · next v k9 r =>
        split at b2
        · next ci f ci2 hp ho =>
            split at b2
            · next hc =>
                subst hc
                split at b2
                · next kd hkd =>
                    split at b2
                    · next hf =>
                        cases b2
                        have hpool := hOK.2.2.1 m idx
                        rw [hp] at hpool
                        exact c_w_put hx hb hown hts hOK.2.1 hpool hd ho hkd hf.1 (hf.2.elim Or.inl (fun q => Or.inr ⟨hnm q.1, fun C hC => c_own hOK hC q.1 q.2⟩)) nx
                    · cases b2
                · cases b2
            · cases b2
        · cases b2
    · cases b2
  case iaload =>
    obtain ⟨b1, b2⟩ := c_if_ok (show c_if (len == 1) (c_ald m pc L st h xs Ln 0 0) = some (.inl q) from hins)
    cases x_len b1
    unfold c_ald at b2
    split at b2
    · next i9 k9 r =>
        split at b2
        · next a ho =>
            split at b2
            · next hc =>
                cases b2
                exact c_w_ald hx hb hd hc.1 hc.2.1 ho hc.2.2.1 hc.2.2.2 (Or.inl ⟨rfl, rfl, rfl⟩) nx
            · cases b2
        · cases b2
    · next i9 k9 r =>
        split at b2
        · next hc =>
            cases b2
            exact c_w_sld hx hb hd (hscr hc.2.1) hc.2.2.1 hc.2.2.2.1 hc.2.2.2.2 nx
        · cases b2
    · cases b2
  case laload =>
    obtain ⟨b1, b2⟩ := c_if_ok (show c_if (len == 1) (c_ald m pc L st h xs Ln 1 1) = some (.inl q) from hins)
    cases x_len b1
    unfold c_ald at b2
    split at b2
    · next i9 k9 r =>
        split at b2
        · next a ho =>
            split at b2
            · next hc =>
                cases b2
                exact c_w_ald hx hb hd hc.1 hc.2.1 ho hc.2.2.1 hc.2.2.2 (Or.inr (Or.inl ⟨rfl, rfl, rfl⟩)) nx
            · cases b2
        · cases b2
    · next i9 k9 r =>
        split at b2
        · next hc =>
            cases b2
            exact absurd hc.1 (by decide)
        · cases b2
    · cases b2
  case baload =>
    obtain ⟨b1, b2⟩ := c_if_ok (show c_if (len == 1) (c_ald m pc L st h xs Ln 0 2) = some (.inl q) from hins)
    cases x_len b1
    unfold c_ald at b2
    split at b2
    · next i9 k9 r =>
        split at b2
        · next a ho =>
            split at b2
            · next hc =>
                cases b2
                exact c_w_ald hx hb hd hc.1 hc.2.1 ho hc.2.2.1 hc.2.2.2 (Or.inr (Or.inr ⟨rfl, rfl, rfl⟩)) nx
            · cases b2
        · cases b2
    · next i9 k9 r =>
        split at b2
        · next hc =>
            cases b2
            exact absurd hc.1 (by decide)
        · cases b2
    · cases b2
  case iastore =>
    obtain ⟨b1, b2⟩ := c_if_ok (show c_if (len == 1) (c_ast pc L st h 0 0) = some (.inl q) from hins)
    cases x_len b1
    unfold c_ast at b2
    split at b2
    · next v i9 k9 r =>
        split at b2
        · next a ho =>
            split at b2
            · next hc =>
                cases b2
                exact c_w_ast hx hb hd hc.1 hc.2.2.1 ho hc.2.2.2.1 hc.2.2.2.2.1 (Or.inl ⟨rfl, rfl, hc.2.1⟩) nx
            · cases b2
        · cases b2
    · cases b2
  case lastore =>
    obtain ⟨b1, b2⟩ := c_if_ok (show c_if (len == 1) (c_ast pc L st h 1 1) = some (.inl q) from hins)
    cases x_len b1
    unfold c_ast at b2
    split at b2
    · next v i9 k9 r =>
        split at b2
        · next a ho =>
            split at b2
            · next hc =>
                cases b2
                exact c_w_ast hx hb hd hc.1 hc.2.2.1 ho hc.2.2.2.1 hc.2.2.2.2.1 (Or.inr (Or.inl ⟨rfl, rfl, hc.2.1⟩)) nx
            · cases b2
        · cases b2
    · cases b2
  case bastore =>
    obtain ⟨b1, b2⟩ := c_if_ok (show c_if (len == 1) (c_ast pc L st h 0 2) = some (.inl q) from hins)
    cases x_len b1
    unfold c_ast at b2
    split at b2
    · next v i9 k9 r =>
        split at b2
        · next a ho =>
            split at b2
            · next hc =>
                cases b2
                exact c_w_ast hx hb hd hc.1 hc.2.2.1 ho hc.2.2.2.1 hc.2.2.2.2.1 (Or.inr (Or.inr ⟨rfl, rfl, hc.2.1, hc.2.2.2.2.2 rfl⟩)) nx
            · cases b2
        · cases b2
    · cases b2
  case arraylength =>
    obtain ⟨b1, b2⟩ := c_if_ok (show c_if (len == 1) (c_alen m pc L st h Ln) = some (.inl q) from hins)
    cases x_len b1
    unfold c_alen at b2
    split at b2
    · next k9 r =>
        split at b2
        · next a ho =>
            split at b2
            · next hc =>
                cases b2
                exact c_w_alen hx hb hd ho hc.1 hc.2 nx
            · cases b2
        · cases b2
    · next k9 r =>
        split at b2
        · next hc =>
            cases b2
            exact c_w_slen hx hb hd (hscr hc) nx
        · cases b2
    · cases b2
  case newarray at9 =>
    obtain ⟨b1, b2⟩ := c_if_ok (show c_if (len == 2) (match (generalizing := false) at9 with | .int => c_newa pc L st h 0 | .long => c_newa pc L st h 1 | .boolean => c_newa pc L st h 2 | _ => none) = some (.inl q) from hins)
    cases x_len b1
    have key : ∀ ty : Nat, (at9 = .int ∧ ty = 0 ∨ at9 = .long ∧ ty = 1 ∨ at9 = .boolean ∧ ty = 2) → c_newa pc L st h ty = some (.inl q) → c_OKs p l e R s mid args below meth c Q P D cl B0 sc (x_maxL P m) ad0 n0 s0 pc L st h := by
      intro ty hty b3
      unfold c_newa at b3
      split at b3
      · next n9 r =>
          split at b3
          · next hc =>
              cases b3
              have hb3 : (h.1 ++ [(Sum.inl (ty, n9.toNat) : cK)]).length - n0 ≤ R.cells := hb3
              have hb4 : c_sz P (h.1 ++ [(Sum.inl (ty, n9.toNat) : cK)]) - s0 ≤ R.slots := hb4
              rw [List.length_append] at hb3
              rw [c_sz_app] at hb4
              have hb3 : h.1.length + 1 - n0 ≤ R.cells := hb3
              have hb4 : c_sz P h.1 + n9.toNat - s0 ≤ R.slots := hb4
              exact c_w_newa hx hb hts hOK.2.2.2.1 hOK.2.2.2.2.1 hOK.2.2.2.2.2.1 hB hd hty hc.1 hc.2 hb1 hb2 (by omega) (by omega) nx
          · cases b3
      · cases b3
    cases at9 <;> first | exact key 0 (Or.inl ⟨rfl, rfl⟩) b2 | exact key 1 (Or.inr (Or.inl ⟨rfl, rfl⟩)) b2 | exact key 2 (Or.inr (Or.inr ⟨rfl, rfl⟩)) b2 | cases b2
  case new idx =>
    obtain ⟨b1, b2⟩ := c_if_ok (show c_if (len == 3) (c_newo P m pc L st h idx) = some (.inl q) from hins)
    cases x_len b1
    unfold c_newo at b2
    split at b2
    · next ci z hp =>
        cases b2
        have hpool := hOK.2.2.1 m idx
        rw [hp] at hpool
        have hb3 : (h.1 ++ [(Sum.inr ci : cK)]).length - n0 ≤ R.cells := hb3
        have hb4 : c_sz P (h.1 ++ [(Sum.inr ci : cK)]) - s0 ≤ R.slots := hb4
        rw [List.length_append] at hb3
        rw [c_sz_app] at hb4
        have hb3 : h.1.length + 1 - n0 ≤ R.cells := hb3
        have hb4 : c_sz P h.1 + (x_cls P ci).length - s0 ≤ R.slots := hb4
        exact c_w_new hx hb hown hts hOK.2.1 hpool hB hd hb1 hb2 (by omega) (by omega) nx
    · cases b2
  case invokespecial idx =>
    obtain ⟨b1, b2⟩ := c_if_ok (show c_if (len == 3) (c_invI P m pc L st h idx) = some (.inl q) from hins)
    cases x_len b1
    have hpool := hOK.2.2.1 m idx
    unfold c_invI at b2
    split at b2
    · unfold c_call at b2
      (repeat' split at b2) <;> cases b2
    · unfold c_call at b2
      (repeat' split at b2) <;> cases b2
    · next z1 z2 hp =>
        rw [hp] at hpool
        split at b2
        · next k9 r =>
            split at b2
            · next hc =>
                cases b2
                exact c_w_oinit hx hb hml hown hts hpool hd (by omega) (by omega) hc nx
            · cases b2
        · cases b2
    · cases b2
  case invokevirtual idx =>
    obtain ⟨b1, b2⟩ := c_if_ok (show c_if (len == 3) (c_invV P m st h idx) = some (.inl q) from hins)
    cases x_len b1
    unfold c_invV c_call at b2
    (repeat' split at b2) <;> cases b2
  case invokestatic idx =>
    obtain ⟨b1, b2⟩ := c_if_ok (show c_if (len == 3) (c_invS P m pc L st h idx) = some (.inl q) from hins)
    cases x_len b1
    have hpool := hOK.2.2.1 m idx
    unfold c_invS at b2
    split at b2
    · unfold c_call at b2
      (repeat' split at b2) <;> cases b2
    · next z1 z2 hp =>
        rw [hp] at hpool
        unfold c_cpy at b2
        split at b2
        · next nn dp kd sp ks r =>
            split at b2
            · next na nb e1 e2 =>
                split at b2
                · next hc =>
                    cases b2
                    exact c_w_cpy hx hb hml hown hts hpool hd (by omega) (by omega) e1 e2 hc.1 hc.2.1 hc.2.2.1 hc.2.2.2.1 hc.2.2.2.2.1 hc.2.2.2.2.2 nx
                · cases b2
            · cases b2
        · cases b2
    · cases b2
  case ireturn =>
    obtain ⟨b1, b2⟩ := c_if_ok (show c_if (len == 1) (c_ret P m st 0) = some (.inl q) from hins)
    cases x_len b1
    unfold c_ret at b2
    (repeat' split at b2) <;> cases b2
  case lreturn =>
    obtain ⟨b1, b2⟩ := c_if_ok (show c_if (len == 1) (c_ret P m st 1) = some (.inl q) from hins)
    cases x_len b1
    unfold c_ret at b2
    (repeat' split at b2) <;> cases b2
  case areturn =>
    obtain ⟨b1, b2⟩ := c_if_ok (show c_if (len == 1) (c_ret P m st 3) = some (.inl q) from hins)
    cases x_len b1
    unfold c_ret at b2
    (repeat' split at b2) <;> cases b2
  case return_ =>
    obtain ⟨b1, b2⟩ := c_if_ok (show c_if (len == 1) (c_retV P m st) = some (.inl q) from hins)
    cases x_len b1
    unfold c_retV at b2
    (repeat' split at b2) <;> cases b2
  all_goals exact absurd (show (none : Option cO) = some (.inl q) from hins) (by simp)
end CM
/-- the pure machine is sound -/
theorem c_snd {P : xP} {D : va_G} {cl : List vw_C} {B0 sc : Nat} {l : Launch} {xs : Nat → Int} {Ln : Nat} (hOK : x_OK cl P) : ∀ n, c_Snd P D cl B0 sc l xs Ln n := by
  intro n
  induction n with
  | zero => intro d m pc L st h r h' hrun; cases hrun
  | succ n ih =>
    intro d m pc L st h r h' hrun p e R s mid args below meth c Q ad0 n0 s0 ctx hscr hb1 hb2 hb3 hb4 hend
    obtain ⟨i, len, hcode, hh⟩ := c_exec_ok hrun
    have hd := hOK.1 m pc i len hcode
    rcases hh with ⟨q, hins, hrest⟩ | ⟨hins, hres⟩ | ⟨j, as, rest, d', r1, h1, hins, rfl, hr1, hr2⟩
    · have e1 := c_ins_ext hins
      have e2 := c_ext hrest
      have l1 := e1.len
      have l2 := e2.len
      have z1 := c_sz_ext (P := P) e1
      have z2 := c_sz_ext (P := P) e2
      have l2 : q.2.2.2.1.length ≤ h'.1.length := l2
      have z2 : c_sz P q.2.2.2.1 ≤ c_sz P h'.1 := z2
      have nx := ih d m q.1 q.2.1 q.2.2.1 q.2.2.2 r h' hrest p e R s mid args below meth c Q ad0 n0 s0 ctx hscr (Nat.le_trans hb1 l1) (Nat.le_trans hb2 z1) hb3 hb4 hend
      exact c_w_plain hOK ctx hscr hb1 hb2 (by omega) (by omega) hd hins nx
    · have hres : h' = h := hres
      subst hres
      have hret : x_isRet i := by
        rcases c_ins_kind hins with ⟨q, hq⟩ | hq | ⟨idx, hq⟩
        · cases hq
        · exact hq
        · exfalso
          rcases hq with rfl | rfl | rfl
          · obtain ⟨-, b2⟩ := c_if_ok (show c_if (len == 3) (c_invV P m st h' idx) = some _ from hins)
            unfold c_invV c_call at b2
            (repeat' split at b2) <;> cases b2
          · obtain ⟨-, b2⟩ := c_if_ok (show c_if (len == 3) (c_invI P m pc L st h' idx) = some _ from hins)
            unfold c_invI c_call c_go at b2
            (repeat' split at b2) <;> cases b2
          · obtain ⟨-, b2⟩ := c_if_ok (show c_if (len == 3) (c_invS P m pc L st h' idx) = some _ from hins)
            unfold c_invS c_call c_cpy at b2
            (repeat' split at b2) <;> cases b2
      exact hend pc L st i len hcode hret hins
    · have e2 := c_ext hr2
      have e1 := c_ext hr1
      have l1 : h.1.length ≤ h1.1.length := e1.len
      have l2 : h1.1.length ≤ h'.1.length := e2.len
      have z1 : c_sz P h.1 ≤ c_sz P h1.1 := c_sz_ext (P := P) e1
      have z2 : c_sz P h1.1 ≤ c_sz P h'.1 := c_sz_ext (P := P) e2
      have nx := ih (d' + 1) m (pc + 3) L (r1.toList ++ rest) h1 r h' hr2 p e R s mid args below meth c Q ad0 n0 s0 ctx hscr (Nat.le_trans hb1 l1) (Nat.le_trans hb2 z1) hb3 hb4 hend
      rcases c_ins_kind hins with ⟨q, hq⟩ | hq | ⟨idx, hq⟩
      · cases hq
      · exfalso
        rcases hq with rfl | rfl | rfl | rfl
        · obtain ⟨-, b2⟩ := c_if_ok (show c_if (len == 1) (c_ret P m st 0) = some _ from hins)
          unfold c_ret at b2
          (repeat' split at b2) <;> cases b2
        · obtain ⟨-, b2⟩ := c_if_ok (show c_if (len == 1) (c_ret P m st 1) = some _ from hins)
          unfold c_ret at b2
          (repeat' split at b2) <;> cases b2
        · obtain ⟨-, b2⟩ := c_if_ok (show c_if (len == 1) (c_ret P m st 3) = some _ from hins)
          unfold c_ret at b2
          (repeat' split at b2) <;> cases b2
        · obtain ⟨-, b2⟩ := c_if_ok (show c_if (len == 1) (c_retV P m st) = some _ from hins)
          unfold c_retV at b2
          (repeat' split at b2) <;> cases b2
      · rcases hq with rfl | rfl | rfl
        · obtain ⟨b1, b2⟩ := c_if_ok (show c_if (len == 3) (c_invV P m st h idx) = some _ from hins)
          cases x_len b1
          exact c_w_invV hOK ih ctx hb1 hb2 (by omega) (by omega) hr1 nx hd b2
        · obtain ⟨b1, b2⟩ := c_if_ok (show c_if (len == 3) (c_invI P m pc L st h idx) = some _ from hins)
          cases x_len b1
          exact c_w_invI hOK ih ctx hb1 hb2 (by omega) (by omega) hr1 nx hd b2
        · obtain ⟨b1, b2⟩ := c_if_ok (show c_if (len == 3) (c_invS P m pc L st h idx) = some _ from hins)
          cases x_len b1
          exact c_w_invS hOK ih ctx hb1 hb2 (by omega) (by omega) hr1 nx hd b2
