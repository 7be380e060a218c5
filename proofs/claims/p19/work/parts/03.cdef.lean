/-! THE PURE MACHINE: bytecode over a pure heap (layout and numbers), a function that either ends with an answer and a heap, or says nothing. -/
/-- a value: tag (0 int, 1 long, 2 null, 3 a cell by its number, 4 the script) and number -/
abbrev cV : Type := Nat × Int
/-- a cell's kind: an array (element type 0 int, 1 long, 2 boolean; length), or an object (class) -/
abbrev cK : Type := (Nat × Nat) ⊕ Nat
abbrev cM : Type := Nat → Nat → Int
abbrev cH : Type := List cK × cM
abbrev cN : Type := Nat × List (Nat × cV) × List cV × cH
/-- what an instruction does: goes on, returns, calls (method, arguments with the receiver first, what stays on the stack) -/
abbrev cO : Type := cN ⊕ (Option cV ⊕ (Nat × List cV × List cV))
def c_up (M : cM) (k f : Nat) (v : Int) : cM := fun a b => if a = k ∧ b = f then v else M a b
def c_new (M : cM) (k : Nat) (g : Nat → Int) : cM := fun a b => if a = k then g b else M a b
/-- a field of a kind (0 int, 1 long, 2 reference, 3 boolean; 10 more: final) as a value; null is -1 -/
def c_fld (kd : Nat) (x : Int) : cV := match kd % 10 with
  | 1 => (1, x)
  | 2 => if x < 0 then (2, 0) else (3, x)
  | _ => (0, x)
def c_enc (v : cV) : Int := if v.1 = 2 then -1 else v.2
def c_dfl (kd : Nat) : Int := if kd % 10 = 2 then -1 else 0
def c_fit (kd : Nat) (v : cV) : Bool := match kd % 10 with
  | 0 => v.1 == 0
  | 1 => v.1 == 1
  | 2 => v.1 == 2 || v.1 == 3
  | 3 => v.1 == 0 && (decide (v.2 = 0) || decide (v.2 = 1))
  | _ => false
def c_cat (v : cV) : Nat := if v.1 = 1 then 2 else 1
def c_find : List (Nat × cV) → Nat → Option cV
  | [], _ => none
  | q :: l, i => if q.1 = i then some q.2 else c_find l i
def c_put1 (l : List (Nat × cV)) (i : Nat) (v : cV) : List (Nat × cV) := (i, v) :: l.filter (fun q => !(q.1 == i) && !(q.1 + 1 == i && c_cat q.2 == 2))
def c_put2 (l : List (Nat × cV)) (i : Nat) (v : cV) : List (Nat × cV) := (i, v) :: l.filter (fun q => !(q.1 == i) && (!(q.1 == i + 1) && !(q.1 + 1 == i && c_cat q.2 == 2)))
def c_args : Nat → List cV → List (Nat × cV)
  | _, [] => []
  | i, v :: vs => (i, v) :: c_args (if c_cat v = 2 then i + 2 else i + 1) vs
def c_bin (op : Int32 → Int32 → Int32) (a b : Int) : Int := (op (Int32.ofInt a) (Int32.ofInt b)).toInt
def c_binL (op : Int64 → Int64 → Int64) (a b : Int) : Int := (op (Int64.ofInt a) (Int64.ofInt b)).toInt
def c_cmp (c : ClassFile.Cond) (a b : Int) : Bool := match c with
  | .eq => decide (a = b)
  | .ne => !decide (a = b)
  | .lt => decide (a < b)
  | .ge => !decide (a < b)
  | .gt => decide (b < a)
  | .le => !decide (b < a)
section CSTEP
variable (P : xP) (m pc : Nat) (L : List (Nat × cV)) (st : List cV) (h : cH) (xs : Nat → Int) (Ln : Nat)
def c_go (n : Nat) (L' : List (Nat × cV)) (st' : List cV) : Option cO := some (.inl (pc + n, L', st', h))
def c_ld (n t i : Nat) : Option cO := match c_find L i with
  | some v => if v.1 = t then c_go pc h n L (v :: st) else none
  | none => none
def c_lda (n i : Nat) : Option cO := match c_find L i with
  | some v => if v.1 = 3 ∨ v.1 = 4 then c_go pc h n L (v :: st) else none
  | none => none
def c_st (n t i : Nat) : Option cO := match st with
  | v :: r => if v.1 = t ∧ i < x_maxL P m then c_go pc h n (c_put1 L i v) r else none
  | [] => none
def c_stL (n i : Nat) : Option cO := match st with
  | v :: r => if v.1 = 1 ∧ i + 1 < x_maxL P m then c_go pc h n (c_put2 L i v) r else none
  | [] => none
def c_op2 (f : Int → Int → Int) : Option cO := match st with
  | w :: v :: r => if v.1 = 0 ∧ w.1 = 0 then c_go pc h 1 L ((0, f v.2 w.2) :: r) else none
  | _ => none
def c_opL (f : Int → Int → Int) : Option cO := match st with
  | w :: v :: r => if v.1 = 1 ∧ w.1 = 1 then c_go pc h 1 L ((1, f v.2 w.2) :: r) else none
  | _ => none
def c_opS (f : Int → Int → Int) : Option cO := match st with
  | w :: v :: r => if v.1 = 1 ∧ w.1 = 0 then c_go pc h 1 L ((1, f v.2 w.2) :: r) else none
  | _ => none
def c_lcmp : Option cO := match st with
  | w :: v :: r => if v.1 = 1 ∧ w.1 = 1 then c_go pc h 1 L ((0, (lg_cmp (Int64.ofInt v.2) (Int64.ofInt w.2)).toInt) :: r) else none
  | _ => none
def c_div (f : Int → Int → Int) : Option cO := match st with
  | w :: v :: r => if v.1 = 0 ∧ w.1 = 0 ∧ w.2 ≠ 0 then c_go pc h 1 L ((0, f v.2 w.2) :: r) else none
  | _ => none
def c_divL (f : Int → Int → Int) : Option cO := match st with
  | w :: v :: r => if v.1 = 1 ∧ w.1 = 1 ∧ w.2 ≠ 0 then c_go pc h 1 L ((1, f v.2 w.2) :: r) else none
  | _ => none
def c_iinc (i : Nat) (n : Int) : Option cO := match c_find L i with
  | some v => if v.1 = 0 ∧ i < x_maxL P m then c_go pc h 3 (c_put1 L i (0, c_bin (· + ·) v.2 (Int32.ofInt n).toInt)) st else none
  | none => none
def c_un (t t' : Nat) (f : Int → Int) : Option cO := match st with
  | v :: r => if v.1 = t then c_go pc h 1 L ((t', f v.2) :: r) else none
  | [] => none
def c_dup : Option cO := match st with
  | v :: r => if c_cat v = 1 then c_go pc h 1 L (v :: v :: r) else none
  | [] => none
def c_pop : Option cO := match st with
  | v :: r => if c_cat v = 1 then c_go pc h 1 L r else none
  | [] => none
def c_dup2 : Option cO := match st with
  | v :: w :: r => if c_cat v = 1 ∧ c_cat w = 1 then c_go pc h 1 L (v :: w :: v :: w :: r) else none
  | _ => none
def c_br (c : ClassFile.Cond) (v w : cV) (r : List cV) (off : Int) : Option cO :=
  if v.1 = 0 ∧ w.1 = 0 ∧ 0 ≤ (pc : Int) + off then some (.inl (if c_cmp c v.2 w.2 = true then ((pc : Int) + off).toNat else pc + 3, L, r, h)) else none
def c_if1 (c : ClassFile.Cond) (off : Int) : Option cO := match st with
  | v :: r => c_br pc L h c v (0, 0) r off
  | [] => none
def c_if2 (c : ClassFile.Cond) (off : Int) : Option cO := match st with
  | w :: v :: r => c_br pc L h c v w r off
  | _ => none
def c_goto (off : Int) : Option cO := if 0 ≤ (pc : Int) + off then some (.inl (((pc : Int) + off).toNat, L, st, h)) else none
def c_swT (dflt lo hi : Int) (offs : List Int) (v : Int) : Int := if v < lo ∨ hi < v then dflt else offs.getD (v - lo).toNat 0
def c_sw (dflt lo hi : Int) (offs : List Int) : Option cO := match st with
  | v :: r => if v.1 = 0 ∧ (offs.length : Int) = hi - lo + 1 ∧ 0 ≤ (pc : Int) + c_swT dflt lo hi offs v.2 then some (.inl (((pc : Int) + c_swT dflt lo hi offs v.2).toNat, L, r, h)) else none
  | [] => none
def c_lsw (dflt : Int) (ps : List (Int × Int)) : Option cO := match st with
  | v :: r => if v.1 = 0 ∧ (ps.zip (ps.drop 1)).all (fun (a, next) => a.1 < next.1) = true ∧ 0 ≤ (pc : Int) + Op.lookupswitch.offset ps dflt v.2 then some (.inl (((pc : Int) + Op.lookupswitch.offset ps dflt v.2).toNat, L, r, h)) else none
  | [] => none
def c_getf (idx : Nat) : Option cO := match st with
  | (3, k) :: r => match x_pool P m idx, h.1[k.toNat]? with
    | (1, ci, f), some (.inr ci') => if ci' = ci then match (x_cls P ci)[f.toNat]? with
      | some kd => c_go pc h 3 L (c_fld kd (h.2 k.toNat f.toNat) :: r)
      | none => none else none
    | _, _ => none
  | _ => none
def c_putf (idx : Nat) : Option cO := match st with
  | v :: (3, k) :: r => match x_pool P m idx, h.1[k.toNat]? with
    | (1, ci, f), some (.inr ci') => if ci' = ci then match (x_cls P ci)[f.toNat]? with
      | some kd => if c_fit kd v = true ∧ (kd < 10 ∨ (x_nm P m).name = "<init>" ∧ x_mci P m = ci) then some (.inl (pc + 3, L, r, (h.1, c_up h.2 k.toNat f.toNat (c_enc v)))) else none
      | none => none else none
    | _, _ => none
  | _ => none
def c_ald (t ty : Nat) : Option cO := match st with
  | i :: (3, k) :: r => match h.1[k.toNat]? with
    | some (.inl a) => if i.1 = 0 ∧ a.1 = ty ∧ 0 ≤ i.2 ∧ i.2 < (a.2 : Int) then c_go pc h 1 L ((t, h.2 k.toNat i.2.toNat) :: r) else none
    | _ => none
  | i :: (4, _) :: r => if ty = 0 ∧ m = 0 ∧ i.1 = 0 ∧ 0 ≤ i.2 ∧ i.2 < (Ln : Int) then c_go pc h 1 L ((0, xs i.2.toNat) :: r) else none
  | _ => none
def c_ast (t ty : Nat) : Option cO := match st with
  | v :: i :: (3, k) :: r => match h.1[k.toNat]? with
    | some (.inl a) => if i.1 = 0 ∧ v.1 = t ∧ a.1 = ty ∧ 0 ≤ i.2 ∧ i.2 < (a.2 : Int) ∧ (ty = 2 → c_fit 3 v = true) then some (.inl (pc + 1, L, r, (h.1, c_up h.2 k.toNat i.2.toNat v.2))) else none
    | _ => none
  | _ => none
def c_alen : Option cO := match st with
  | (3, k) :: r => match h.1[k.toNat]? with
    | some (.inl a) => if a.1 < 3 ∧ a.2 < 2147483648 then c_go pc h 1 L ((0, (a.2 : Int)) :: r) else none
    | _ => none
  | (4, _) :: r => if m = 0 then c_go pc h 1 L ((0, (Ln : Int)) :: r) else none
  | _ => none
def c_newa (ty : Nat) : Option cO := match st with
  | (0, n) :: r => if 0 ≤ n ∧ n ≤ 60000000 then some (.inl (pc + 2, L, (3, (h.1.length : Int)) :: r, (h.1 ++ [.inl (ty, n.toNat)], c_new h.2 h.1.length (fun _ => 0)))) else none
  | _ => none
def c_newo (idx : Nat) : Option cO := match x_pool P m idx with
  | (9, ci, _) => some (.inl (pc + 3, L, (3, (h.1.length : Int)) :: st, (h.1 ++ [.inr ci], c_new h.2 h.1.length (fun f => c_dfl ((x_cls P ci).getD f 0)))))
  | _ => none
def c_call (j : Nat) (as rest : List cV) : Option cO :=
  if x_maxL P j ≤ 60 ∧ (as.map c_cat).sum ≤ x_maxL P j ∧ (rest.map c_cat).sum ≤ 8 then some (.inr (.inr (j, as, rest))) else none
def c_cpy : Option cO := match st with
  | (0, n) :: (0, dp) :: (3, kd) :: (0, sp) :: (3, ks) :: r => match h.1[ks.toNat]?, h.1[kd.toNat]? with
    | some (.inl (0, n0)), some (.inl (0, n1)) =>
      if 0 ≤ n ∧ 0 ≤ dp ∧ 0 ≤ sp ∧ sp + n ≤ n0 ∧ dp + n ≤ n1 ∧ (r.map c_cat).sum ≤ 8 then
        some (.inl (pc + 3, L, r, (h.1, fun a b => if a = kd.toNat ∧ dp.toNat ≤ b ∧ b < dp.toNat + n.toNat then h.2 ks.toNat (sp.toNat + (b - dp.toNat)) else h.2 a b))) else none
    | _, _ => none
  | _ => none
def c_invV (idx : Nat) : Option cO := match x_pool P m idx with
  | (2, j, n) => match st.drop n.toNat with
    | (3, k) :: rest => match h.1[k.toNat]? with
      | some (.inr ci) => if ci = x_mci P j ∧ (st.take n.toNat).length = n.toNat then c_call P j ((3, k) :: (st.take n.toNat).reverse) rest else none
      | _ => none
    | _ => none
  | (12, j, n) => match st.drop n.toNat with
    | (3, k) :: rest => match h.1[k.toNat]? with
      | some (.inr ci) => if ci = x_mci P j ∧ (st.take n.toNat).length = n.toNat then c_call P j ((3, k) :: (st.take n.toNat).reverse) rest else none
      | _ => none
    | _ => none
  | _ => none
def c_invI (idx : Nat) : Option cO := match x_pool P m idx with
  | (3, j, n) => match st.drop n.toNat with
    | (3, k) :: rest => if (st.take n.toNat).length = n.toNat then c_call P j ((3, k) :: (st.take n.toNat).reverse) rest else none
    | _ => none
  | (4, j, n) => match st.drop n.toNat with
    | (3, k) :: rest => if (st.take n.toNat).length = n.toNat then c_call P j ((3, k) :: (st.take n.toNat).reverse) rest else none
    | _ => none
  | (5, _, _) => match st with
    | (3, _) :: r => if (r.map c_cat).sum ≤ 8 then c_go pc h 3 L r else none
    | _ => none
  | _ => none
def c_invS (idx : Nat) : Option cO := match x_pool P m idx with
  | (6, j, n) => if (st.take n.toNat).length = n.toNat then c_call P j (st.take n.toNat).reverse (st.drop n.toNat) else none
  | (10, _, _) => c_cpy pc L st h
  | _ => none
/-- the end of a method: its kind (0 nothing, 1 int, 2 boolean, 3 long, 4 an array) -/
def c_ret (t : Nat) : Option cO := match st with
  | [v] => if v.1 = t ∧ (t = 0 ∧ x_retk P m = 1 ∨ t = 0 ∧ x_retk P m = 2 ∧ c_fit 3 v = true ∨ t = 1 ∧ x_retk P m = 3 ∨ t = 3 ∧ x_retk P m = 4) then some (.inr (.inl (some v))) else none
  | _ => none
def c_retV : Option cO := match st with
  | [] => if x_retk P m = 0 then some (.inr (.inl none)) else none
  | _ => none
def c_if (b : Bool) (r : Option cO) : Option cO := cond b r none
def c_ins (i : Instr) (len : Nat) : Option cO := match i with
  | .iconst n => c_if (len == 1) (c_go pc h 1 L ((0, (Int32.ofInt n).toInt) :: st))
  | .bipush n => c_if (len == 2) (c_go pc h 2 L ((0, (Int8.ofInt n).toInt32.toInt) :: st))
  | .sipush n => c_if (len == 3) (c_go pc h 3 L ((0, (Int16.ofInt n).toInt32.toInt) :: st))
  | .lconst k => c_if (len == 1) (c_go pc h 1 L ((1, (Int64.ofNat (k : Nat)).toInt) :: st))
  | .ldc idx => c_if (len == 2) (match x_pool P m idx with
    | (7, _, c) => c_go pc h 2 L ((0, c) :: st)
    | _ => none)
  | .ldc_w idx => c_if (len == 3) (match x_pool P m idx with
    | (7, _, c) => c_go pc h 3 L ((0, c) :: st)
    | _ => none)
  | .ldc2_w idx => c_if (len == 3) (match x_pool P m idx with
    | (8, _, c) => c_go pc h 3 L ((1, c) :: st)
    | _ => none)
  | .iload i => c_if (len == 2) (c_ld pc L st h 2 0 i)
  | .iload_n i => c_if (len == 1) (c_ld pc L st h 1 0 (i : Nat))
  | .lload i => c_if (len == 2) (c_ld pc L st h 2 1 i)
  | .lload_n i => c_if (len == 1) (c_ld pc L st h 1 1 (i : Nat))
  | .aload i => c_if (len == 2) (c_lda pc L st h 2 i)
  | .aload_n i => c_if (len == 1) (c_lda pc L st h 1 (i : Nat))
  | .istore i => c_if (len == 2) (c_st P m pc L st h 2 0 i)
  | .istore_n i => c_if (len == 1) (c_st P m pc L st h 1 0 (i : Nat))
  | .astore i => c_if (len == 2) (c_st P m pc L st h 2 3 i)
  | .astore_n i => c_if (len == 1) (c_st P m pc L st h 1 3 (i : Nat))
  | .lstore i => c_if (len == 2) (c_stL P m pc L st h 2 i)
  | .lstore_n i => c_if (len == 1) (c_stL P m pc L st h 1 (i : Nat))
  | .iinc i n => c_if (len == 3) (c_iinc P m pc L st h i n)
  | .iadd => c_if (len == 1) (c_op2 pc L st h (c_bin (· + ·)))
  | .isub => c_if (len == 1) (c_op2 pc L st h (c_bin (· - ·)))
  | .imul => c_if (len == 1) (c_op2 pc L st h (c_bin (· * ·)))
  | .iand => c_if (len == 1) (c_op2 pc L st h (c_bin (· &&& ·)))
  | .ior => c_if (len == 1) (c_op2 pc L st h (c_bin (· ||| ·)))
  | .ixor => c_if (len == 1) (c_op2 pc L st h (c_bin (· ^^^ ·)))
  | .ishl => c_if (len == 1) (c_op2 pc L st h (c_bin (fun x y => x <<< (y &&& 31))))
  | .ishr => c_if (len == 1) (c_op2 pc L st h (c_bin (fun x y => x >>> (y &&& 31))))
  | .iushr => c_if (len == 1) (c_op2 pc L st h (c_bin (fun x y => (x.toUInt32 >>> (y.toUInt32 &&& Int32.toUInt32 31)).toInt32)))
  | .idiv => c_if (len == 1) (c_div pc L st h (c_bin (· / ·)))
  | .irem => c_if (len == 1) (c_div pc L st h (c_bin (fun x y => x - x / y * y)))
  | .ladd => c_if (len == 1) (c_opL pc L st h (c_binL (· + ·)))
  | .lsub => c_if (len == 1) (c_opL pc L st h (c_binL (· - ·)))
  | .lmul => c_if (len == 1) (c_opL pc L st h (c_binL (· * ·)))
  | .land => c_if (len == 1) (c_opL pc L st h (c_binL (· &&& ·)))
  | .lor => c_if (len == 1) (c_opL pc L st h (c_binL (· ||| ·)))
  | .lxor => c_if (len == 1) (c_opL pc L st h (c_binL (· ^^^ ·)))
  | .ldiv => c_if (len == 1) (c_divL pc L st h (c_binL (· / ·)))
  | .lrem => c_if (len == 1) (c_divL pc L st h (c_binL (fun x y => x - x / y * y)))
  | .lcmp => c_if (len == 1) (c_lcmp pc L st h)
  | .lshl => c_if (len == 1) (c_opS pc L st h (fun a b => (Int64.ofInt a <<< ((Int32.ofInt b).toInt64 &&& 63)).toInt))
  | .lshr => c_if (len == 1) (c_opS pc L st h (fun a b => (Int64.ofInt a >>> ((Int32.ofInt b).toInt64 &&& 63)).toInt))
  | .i2l => c_if (len == 1) (c_un pc L st h 0 1 (fun a => a))
  | .l2i => c_if (len == 1) (c_un pc L st h 1 0 (fun a => (Int64.ofInt a).toInt32.toInt))
  | .dup => c_if (len == 1) (c_dup pc L st h)
  | .pop => c_if (len == 1) (c_pop pc L st h)
  | .dup2 => c_if (len == 1) (c_dup2 pc L st h)
  | .ifCond c off => c_if (len == 3) (c_if1 pc L st h c off)
  | .if_icmp c off => c_if (len == 3) (c_if2 pc L st h c off)
  | .goto off => c_if (len == 3) (c_goto pc L st h off)
  | .tableswitch dflt lo hi offs => c_sw pc L st h dflt lo hi offs.toList
  | .lookupswitch dflt ps => c_lsw pc L st h dflt ps.toList
  | .getfield idx => c_if (len == 3) (c_getf P m pc L st h idx)
  | .putfield idx => c_if (len == 3) (c_putf P m pc L st h idx)
  | .iaload => c_if (len == 1) (c_ald m pc L st h xs Ln 0 0)
  | .laload => c_if (len == 1) (c_ald m pc L st h xs Ln 1 1)
  | .baload => c_if (len == 1) (c_ald m pc L st h xs Ln 0 2)
  | .iastore => c_if (len == 1) (c_ast pc L st h 0 0)
  | .lastore => c_if (len == 1) (c_ast pc L st h 1 1)
  | .bastore => c_if (len == 1) (c_ast pc L st h 0 2)
  | .arraylength => c_if (len == 1) (c_alen m pc L st h Ln)
  | .newarray t => c_if (len == 2) (match t with
    | .int => c_newa pc L st h 0
    | .long => c_newa pc L st h 1
    | .boolean => c_newa pc L st h 2
    | _ => none)
  | .new idx => c_if (len == 3) (c_newo P m pc L st h idx)
  | .invokevirtual idx => c_if (len == 3) (c_invV P m st h idx)
  | .invokespecial idx => c_if (len == 3) (c_invI P m pc L st h idx)
  | .invokestatic idx => c_if (len == 3) (c_invS P m pc L st h idx)
  | .ireturn => c_if (len == 1) (c_ret P m st 0)
  | .lreturn => c_if (len == 1) (c_ret P m st 1)
  | .areturn => c_if (len == 1) (c_ret P m st 3)
  | .return_ => c_if (len == 1) (c_retV P m st)
  | _ => none
end CSTEP
/-- a method's run: at most n steps on each road, d frames deep -/
def c_exec (P : xP) (xs : Nat → Int) (Ln : Nat) : Nat → Nat → Nat → Nat → List (Nat × cV) → List cV → cH → Option (Option cV × cH)
  | 0, _, _, _, _, _, _ => none
  | n + 1, d, m, pc, L, st, h => match x_code P m pc with
    | none => none
    | some (i, len) => match c_ins P m pc L st h xs Ln i len with
      | none => none
      | some (.inl q) => c_exec P xs Ln n d m q.1 q.2.1 q.2.2.1 q.2.2.2
      | some (.inr (.inl r)) => some (r, h)
      | some (.inr (.inr q)) => match d with
        | 0 => none
        | d' + 1 => match c_exec P xs Ln n d' q.1 0 (c_args 0 q.2.1) [] h with
          | none => none
          | some r => c_exec P xs Ln n (d' + 1) m (pc + 3) L (r.1.toList ++ q.2.2) r.2
