/-! the executor -/
abbrev xP : Type := (Nat → Nat → Option (Instr × Nat)) × (Nat → Nat → Nat × Nat × Int) × (Nat → Nat × Nat × Nat × Nat × Nat) × (Nat → List Nat) × (Nat → MethodName) × (Nat → ByteArray) × (Nat → Option FieldType)
def x_code (P : xP) : Nat → Nat → Option (Instr × Nat) := P.1
def x_pool (P : xP) : Nat → Nat → Nat × Nat × Int := P.2.1
def x_maxL (P : xP) (m : Nat) : Nat := (P.2.2.1 m).1
def x_retk (P : xP) (m : Nat) : Nat := (P.2.2.1 m).2.1
def x_mc (P : xP) (m : Nat) : Nat := (P.2.2.1 m).2.2.1
def x_ms (P : xP) (m : Nat) : Nat := (P.2.2.1 m).2.2.2.1
def x_mci (P : xP) (m : Nat) : Nat := (P.2.2.1 m).2.2.2.2
def x_cls (P : xP) : Nat → List Nat := P.2.2.2.1
def x_nm (P : xP) : Nat → MethodName := P.2.2.2.2.1
def x_by (P : xP) : Nat → ByteArray := P.2.2.2.2.2.1
def x_rt (P : xP) : Nat → Option FieldType := P.2.2.2.2.2.2
/-- a new symbol with bounds -/
def x_fresh (t : Nat) (E : xE) (lo hi : Int) : xV × xE := ((t, some E.length, 0), E ++ [(lo, hi)])
def x_top32 (E : xE) : xV × xE := x_fresh 0 E (-2147483648) 2147483647
def x_top64 (E : xE) : xV × xE := x_fresh 1 E (-9223372036854775808) 9223372036854775807
def x_in32 (lo hi : Int) : Bool := decide (-2147483648 ≤ lo) && decide (hi ≤ 2147483647)
def x_bin (op : Int32 → Int32 → Int32) (E : xE) (v w : xV) : xV × xE := match v.2.1, w.2.1 with
  | none, none => ((0, none, (op (Int32.ofInt v.2.2) (Int32.ofInt w.2.2)).toInt), E)
  | _, _ => x_top32 E
def x_binL (op : Int64 → Int64 → Int64) (E : xE) (v w : xV) : xV × xE := match v.2.1, w.2.1 with
  | none, none => ((1, none, (op (Int64.ofInt v.2.2) (Int64.ofInt w.2.2)).toInt), E)
  | _, _ => x_top64 E
def x_shL (op : Int64 → Int32 → Int64) (E : xE) (v w : xV) : xV × xE := match v.2.1, w.2.1 with
  | none, none => ((1, none, (op (Int64.ofInt v.2.2) (Int32.ofInt w.2.2)).toInt), E)
  | _, _ => x_top64 E
def x_cmpL (E : xE) (v w : xV) : xV × xE := match v.2.1, w.2.1 with
  | none, none => ((0, none, (lg_cmp (Int64.ofInt v.2.2) (Int64.ofInt w.2.2)).toInt), E)
  | _, _ => x_top32 E
def x_addc (E : xE) (v : xV) (c : Int) : xV × xE := match v.2.1 with
  | none => ((0, none, (Int32.ofInt v.2.2 + Int32.ofInt c).toInt), E)
  | some i => if x_in32 ((x_iv E v).1 + c) ((x_iv E v).2 + c) = true then ((0, some i, v.2.2 + c), E) else x_top32 E
def x_subc (E : xE) (v : xV) (c : Int) : xV × xE := match v.2.1 with
  | none => ((0, none, (Int32.ofInt v.2.2 - Int32.ofInt c).toInt), E)
  | some i => if x_in32 ((x_iv E v).1 - c) ((x_iv E v).2 - c) = true then ((0, some i, v.2.2 - c), E) else x_top32 E
def x_add (E : xE) (v w : xV) : xV × xE := match w.2.1 with
  | none => x_addc E v w.2.2
  | some _ => match v.2.1 with
    | none => x_addc E w v.2.2
    | some _ => if x_in32 ((x_iv E v).1 + (x_iv E w).1) ((x_iv E v).2 + (x_iv E w).2) = true then x_fresh 0 E ((x_iv E v).1 + (x_iv E w).1) ((x_iv E v).2 + (x_iv E w).2) else x_top32 E
def x_sub (E : xE) (v w : xV) : xV × xE := match w.2.1 with
  | none => x_subc E v w.2.2
  | some _ => if x_in32 ((x_iv E v).1 - (x_iv E w).2) ((x_iv E v).2 - (x_iv E w).1) = true then x_fresh 0 E ((x_iv E v).1 - (x_iv E w).2) ((x_iv E v).2 - (x_iv E w).1) else x_top32 E
def x_l2i (E : xE) (v : xV) : xV × xE := match v.2.1 with
  | none => ((0, none, (Int64.ofInt v.2.2).toInt32.toInt), E)
  | some i => if x_in32 (x_iv E v).1 (x_iv E v).2 = true then ((0, some i, v.2.2), E) else x_top32 E
def x_mn (E : xE) (v w : xV) : xV × xE := match v.2.1, w.2.1 with
  | none, none => ((0, none, min v.2.2 w.2.2), E)
  | _, _ => x_fresh 0 E (min (x_iv E v).1 (x_iv E w).1) (min (x_iv E v).2 (x_iv E w).2)
def x_mx (E : xE) (v w : xV) : xV × xE := match v.2.1, w.2.1 with
  | none, none => ((0, none, max v.2.2 w.2.2), E)
  | _, _ => x_fresh 0 E (max (x_iv E v).1 (x_iv E w).1) (max (x_iv E v).2 (x_iv E w).2)
/-- comparisons -/
def x_holds (c : ClassFile.Cond) (x y : Int) : Prop := match c with
  | .eq => x = y
  | .ne => ¬ x = y
  | .lt => x < y
  | .ge => ¬ x < y
  | .gt => y < x
  | .le => ¬ y < x
def x_neg : ClassFile.Cond → ClassFile.Cond
  | .eq => .ne
  | .ne => .eq
  | .lt => .ge
  | .ge => .lt
  | .gt => .le
  | .le => .gt
/-- can it be? by bounds -/
def x_can (c : ClassFile.Cond) (a b : Int × Int) : Bool := match c with
  | .eq => decide (a.1 ≤ b.2) && decide (b.1 ≤ a.2)
  | .ne => true
  | .lt => decide (a.1 < b.2)
  | .ge => decide (b.1 ≤ a.2)
  | .gt => decide (b.1 < a.2)
  | .le => decide (a.1 ≤ b.2)
def x_M : Int := 9223372036854775808
def x_asm (E : xE) (c : ClassFile.Cond) (v w : xV) : xE := match c with
  | .eq => x_cap (x_cap E v (x_iv E w).1 (x_iv E w).2) w (x_iv E v).1 (x_iv E v).2
  | .ne => E
  | .lt => x_cap (x_cap E v (-x_M) ((x_iv E w).2 - 1)) w ((x_iv E v).1 + 1) x_M
  | .ge => x_cap (x_cap E v (x_iv E w).1 x_M) w (-x_M) (x_iv E v).2
  | .gt => x_cap (x_cap E v ((x_iv E w).1 + 1) x_M) w (-x_M) ((x_iv E v).2 - 1)
  | .le => x_cap (x_cap E v (-x_M) (x_iv E w).2) w (x_iv E v).1 x_M
def x_alt (E : xE) (c : ClassFile.Cond) (v w : xV) : List xE := if x_can c (x_iv E v) (x_iv E w) = true then [x_asm E c v w] else []
def x_alts (E : xE) (c : ClassFile.Cond) (v w : xV) : List xE := match c with
  | .ne => if v.2 = w.2 then [] else x_alt E .lt v w ++ x_alt E .gt v w
  | c => x_alt E c v w
/-- an array's place, read and written -/
def x_rdD (t : Nat) (E : xE) (lo hi : Int) : xV × xE := if lo = hi then ((t, none, lo), E) else x_fresh t E lo hi
def x_rd (t : Nat) (E : xE) (a : xA) (i : xV) : Option (xV × xE) :=
  if 0 ≤ (x_iv E i).1 ∧ (x_iv E i).2 < (a.2.1 : Int) then
    match i.2.1 with
    | none => match x_find a.2.2.2.2 i.2.2.toNat with
      | some v => some ((t, v.2), E)
      | none => some (x_rdD t E a.2.2.1 a.2.2.2.1)
    | some _ => match a.2.2.2.2 with
      | [] => some (x_rdD t E a.2.2.1 a.2.2.2.1)
      | _ :: _ => some (if t = 0 then x_top32 E else x_top64 E)
  else none
def x_wr (t : Nat) (E : xE) (a : xA) (i v : xV) : Option xA :=
  if 0 ≤ (x_iv E i).1 ∧ (x_iv E i).2 < (a.2.1 : Int) then
    match i.2.1 with
    | none => if a.2.2.1 = a.2.2.2.1 ∧ v.2.1 = none ∧ v.2.2 = a.2.2.1 ∧ x_find a.2.2.2.2 i.2.2.toNat = none then some a
      else some (a.1, a.2.1, a.2.2.1, a.2.2.2.1, (i.2.2.toNat, v) :: a.2.2.2.2)
    | some _ => match a.2.2.2.2 with
      | [] => some (a.1, a.2.1, min a.2.2.1 (x_iv E v).1, max a.2.2.2.1 (x_iv E v).2, [])
      | _ :: _ => if t = 1 then some (a.1, a.2.1, -9223372036854775808, 9223372036854775807, []) else some (a.1, a.2.1, -2147483648, 2147483647, [])
  else none
def x_dflt : Nat → xV
  | 1 => (1, none, 0)
  | 2 => (2, none, 0)
  | _ => (0, none, 0)
/-- a field's kind (0 int, 1 long, 2 reference, 3 boolean; 10 more: final) takes the value -/
def x_fit (E : xE) (kd : Nat) (v : xV) : Bool := match kd % 10 with
  | 0 => v.1 == 0
  | 1 => v.1 == 1
  | 2 => v.1 == 2 || v.1 == 3
  | 3 => v.1 == 0 && decide (0 ≤ (x_iv E v).1) && decide ((x_iv E v).2 ≤ 1)
  | _ => false
section XSTEP
variable (P : xP) (m pc : Nat) (L : List (Nat × xV)) (st : List xV) (cc ss : Nat) (fs : List xF) (h : List xC) (E : xE)
def x_at (pc' : Nat) (L' : List (Nat × xV)) (st' : List xV) (E' : xE) : xS := ((m, pc', L', st', cc, ss) :: fs, h, E')
def x_ld (n t i : Nat) : Option (List xS) := match x_find L i with
  | some v => if v.1 = t then some [x_at m cc ss fs h (pc + n) L (v :: st) E] else none
  | none => none
def x_lda (n i : Nat) : Option (List xS) := match x_find L i with
  | some v => if v.1 = 3 ∨ v.1 = 4 then some [x_at m cc ss fs h (pc + n) L (v :: st) E] else none
  | none => none
def x_st (n i : Nat) : Option (List xS) := match st with
  | v :: r => if v.1 = 0 ∧ i < x_maxL P m then some [x_at m cc ss fs h (pc + n) (x_put1 L i v) r E] else none
  | [] => none
def x_stL (n i : Nat) : Option (List xS) := match st with
  | v :: r => if v.1 = 1 ∧ i + 1 < x_maxL P m then some [x_at m cc ss fs h (pc + n) (x_put2 L i v) r E] else none
  | [] => none
def x_stA (n i : Nat) : Option (List xS) := match st with
  | v :: r => if v.1 = 3 ∧ i < x_maxL P m then some [x_at m cc ss fs h (pc + n) (x_put1 L i v) r E] else none
  | [] => none
def x_op2 (f : xE → xV → xV → xV × xE) : Option (List xS) := match st with
  | w :: v :: r => if v.1 = 0 ∧ w.1 = 0 then some [x_at m cc ss fs h (pc + 1) L ((f E v w).1 :: r) (f E v w).2] else none
  | _ => none
def x_opL (f : xE → xV → xV → xV × xE) : Option (List xS) := match st with
  | w :: v :: r => if v.1 = 1 ∧ w.1 = 1 then some [x_at m cc ss fs h (pc + 1) L ((f E v w).1 :: r) (f E v w).2] else none
  | _ => none
def x_opS (f : xE → xV → xV → xV × xE) : Option (List xS) := match st with
  | w :: v :: r => if v.1 = 1 ∧ w.1 = 0 then some [x_at m cc ss fs h (pc + 1) L ((f E v w).1 :: r) (f E v w).2] else none
  | _ => none
/-- a divisor that isn't 0 -/
def x_nz (w : xV) : Bool := decide (0 < (x_iv E w).1) || decide ((x_iv E w).2 < 0)
def x_div (f : xE → xV → xV → xV × xE) : Option (List xS) := match st with
  | w :: v :: r => if v.1 = 0 ∧ w.1 = 0 ∧ x_nz E w = true then some [x_at m cc ss fs h (pc + 1) L ((f E v w).1 :: r) (f E v w).2] else none
  | _ => none
def x_divL (f : xE → xV → xV → xV × xE) : Option (List xS) := match st with
  | w :: v :: r => if v.1 = 1 ∧ w.1 = 1 ∧ x_nz E w = true then some [x_at m cc ss fs h (pc + 1) L ((f E v w).1 :: r) (f E v w).2] else none
  | _ => none
def x_br (c : ClassFile.Cond) (v w : xV) (r : List xV) (off : Int) : Option (List xS) :=
  if v.1 = 0 ∧ w.1 = 0 ∧ 0 ≤ (pc : Int) + off then
    some ((x_alts E c v w).map (fun E' => x_at m cc ss fs h ((pc : Int) + off).toNat L r E') ++ (x_alts E (x_neg c) v w).map (fun E' => x_at m cc ss fs h (pc + 3) L r E'))
  else none
def x_swI (v : xV) (r : List xV) (lo : Int) : Nat → List Int → List xS
  | _, [] => []
  | k, off :: l => (if x_can .eq (x_iv E v) (lo + k, lo + k) = true then [x_at m cc ss fs h ((pc : Int) + off).toNat L r (x_cap E v (lo + k) (lo + k))] else []) ++ x_swI v r lo (k + 1) l
def x_sw (v : xV) (r : List xV) (dflt lo hi : Int) (offs : List Int) : Option (List xS) :=
  if v.1 = 0 ∧ 0 ≤ (pc : Int) + dflt ∧ offs.all (fun o => decide (0 ≤ (pc : Int) + o)) = true ∧ (offs.length : Int) = hi - lo + 1 then
    some ((if (x_iv E v).1 < lo then [x_at m cc ss fs h ((pc : Int) + dflt).toNat L r (x_cap E v (-x_M) (lo - 1))] else []) ++
      (if hi < (x_iv E v).2 then [x_at m cc ss fs h ((pc : Int) + dflt).toNat L r (x_cap E v (hi + 1) x_M)] else []) ++ x_swI m pc L cc ss fs h E v r lo 0 offs)
  else none
def x_getf (idx : Nat) : Option (List xS) := match st with
  | (3, _, k) :: r => match x_pool P m idx, h[k.toNat]? with
    | (1, ci, f), some (.inr (ci', vs)) => if ci' = ci then match vs[f.toNat]? with
      | some v => some [x_at m cc ss fs h (pc + 3) L (v :: r) E]
      | none => none else none
    | _, _ => none
  | _ => none
def x_putf (idx : Nat) : Option (List xS) := match st with
  | v :: (3, _, k) :: r => match x_pool P m idx, h[k.toNat]? with
    | (1, ci, f), some (.inr (ci', vs)) => if ci' = ci ∧ f.toNat < vs.length then match (x_cls P ci)[f.toNat]? with
      | some kd => if x_fit E kd v = true ∧ (kd < 10 ∨ (x_nm P m).name = "<init>" ∧ x_mci P m = ci) then
          some [((m, pc + 3, L, r, cc, ss) :: fs, h.set k.toNat (.inr (ci, vs.set f.toNat v)), E)] else none
      | none => none else none
    | _, _ => none
  | _ => none
def x_ald (t ty : Nat) : Option (List xS) := match st with
  | i :: (3, _, k) :: r => match h[k.toNat]? with
    | some (.inl a) => if i.1 = 0 ∧ a.1 = ty then match x_rd t E a i with
      | some q => some [x_at m cc ss fs h (pc + 1) L (q.1 :: r) q.2]
      | none => none else none
    | _ => none
  | i :: (4, _, _) :: r => if ty = 0 ∧ m = 0 ∧ i.1 = 0 ∧ i.2.1 = none ∧ 0 ≤ i.2.2 ∧ i.2.2 < 6 ∧ i.2.2 < (x_iv E (0, some 6, 0)).1 then some [x_at m cc ss fs h (pc + 1) L ((0, some i.2.2.toNat, 0) :: r) E] else none
  | _ => none
def x_ast (t ty : Nat) : Option (List xS) := match st with
  | v :: i :: (3, _, k) :: r => match h[k.toNat]? with
    | some (.inl a) => if i.1 = 0 ∧ v.1 = t ∧ a.1 = ty ∧ (ty = 2 → x_fit E 3 v = true) then match x_wr t E a i v with
      | some b => some [((m, pc + 1, L, r, cc, ss) :: fs, h.set k.toNat (.inl b), E)]
      | none => none else none
    | _ => none
  | _ => none
def x_alen : Option (List xS) := match st with
  | (3, _, k) :: r => match h[k.toNat]? with
    | some (.inl a) => if a.1 < 3 then some [x_at m cc ss fs h (pc + 1) L ((0, none, (Int32.ofNat a.2.1).toInt) :: r) E] else none
    | _ => none
  | (4, _, _) :: r => if m = 0 then some [x_at m cc ss fs h (pc + 1) L ((0, some 6, 0) :: r) E] else none
  | _ => none
def x_newa (ty : Nat) : Option (List xS) := match st with
  | (0, none, n) :: r => if 0 ≤ n ∧ n ≤ 60000000 ∧ cc + 1 ≤ x_mc P m ∧ ss + n.toNat ≤ x_ms P m then
      some [((m, pc + 2, L, (3, none, h.length) :: r, cc + 1, ss + n.toNat) :: fs, h ++ [.inl (ty, n.toNat, 0, 0, [])], E)] else none
  | _ => none
def x_new (idx : Nat) : Option (List xS) := match x_pool P m idx with
  | (9, ci, _) => if cc + 1 ≤ x_mc P m ∧ ss + (x_cls P ci).length ≤ x_ms P m then
      some [((m, pc + 3, L, (3, none, h.length) :: st, cc + 1, ss + (x_cls P ci).length) :: fs, h ++ [.inr (ci, (x_cls P ci).map (fun k => x_dflt (k % 10)))], E)] else none
  | _ => none
/-- a call: method j, its arguments (receiver first), what stays on the stack -/
def x_push (j : Nat) (as rest : List xV) : Option (List xS) :=
  if cc + x_mc P j ≤ x_mc P m ∧ ss + x_ms P j ≤ x_ms P m ∧ fs.length < 40 ∧ x_maxL P j ≤ 60 ∧ (as.map x_cat).sum ≤ x_maxL P j ∧ (rest.map x_cat).sum ≤ 8 then
    some [((j, 0, x_args 0 as, [], 0, 0) :: (m, pc + 3, L, rest, cc + x_mc P j, ss + x_ms P j) :: fs, h, E)]
  else none
def x_cpy (idx : Nat) : Option (List xS) := match st with
  | (0, none, n) :: (0, none, dp) :: (3, _, kd) :: (0, none, sp) :: (3, _, ks) :: r => match h[ks.toNat]?, h[kd.toNat]? with
    | some (.inl (0, n0, lo0, hi0, [])), some (.inl (0, n1, lo1, hi1, [])) =>
      if 0 ≤ n ∧ 0 ≤ dp ∧ 0 ≤ sp ∧ sp + n ≤ n0 ∧ dp + n ≤ n1 ∧ (r.map x_cat).sum ≤ 8 then
        some [((m, pc + 3, L, r, cc, ss) :: fs, h.set kd.toNat (.inl (0, n1, min lo0 lo1, max hi0 hi1, [])), E)] else none
    | _, _ => none
  | _ => none
def x_invV (idx : Nat) : Option (List xS) := match x_pool P m idx with
  | (2, j, n) => match st.drop n.toNat with
    | (3, b, k) :: rest => match h[k.toNat]? with
      | some (.inr (ci, _)) => if ci = x_mci P j ∧ (st.take n.toNat).length = n.toNat then x_push P m pc L cc ss fs h E j ((3, b, k) :: (st.take n.toNat).reverse) rest else none
      | _ => none
    | _ => none
  | _ => none
def x_invI (idx : Nat) : Option (List xS) := match x_pool P m idx with
  | (3, j, n) => match st.drop n.toNat with
    | (3, b, k) :: rest => if (st.take n.toNat).length = n.toNat then x_push P m pc L cc ss fs h E j ((3, b, k) :: (st.take n.toNat).reverse) rest else none
    | _ => none
  | (4, j, n) => match st.drop n.toNat with
    | (3, b, k) :: rest => if (st.take n.toNat).length = n.toNat then x_push P m pc L cc ss fs h E j ((3, b, k) :: (st.take n.toNat).reverse) rest else none
    | _ => none
  | (5, _, _) => match st with
    | (3, _, _) :: r => if (r.map x_cat).sum ≤ 8 then some [x_at m cc ss fs h (pc + 3) L r E] else none
    | _ => none
  | _ => none
/-- Math.min and Math.max -/
def x_mm (f : xE → xV → xV → xV × xE) : Option (List xS) := match st with
  | w :: v :: r => if v.1 = 0 ∧ w.1 = 0 ∧ (r.map x_cat).sum ≤ 8 ∧ cc ≤ x_mc P m ∧ ss ≤ x_ms P m then some [x_at m cc ss fs h (pc + 3) L ((f E v w).1 :: r) (f E v w).2] else none
  | _ => none
def x_invS (idx : Nat) : Option (List xS) := match x_pool P m idx with
  | (6, j, n) => if (st.take n.toNat).length = n.toNat then x_push P m pc L cc ss fs h E j (st.take n.toNat).reverse (st.drop n.toNat) else none
  | (10, _, _) => x_cpy m pc L st cc ss fs h E idx
  | (13, _, _) => x_mm P m pc L st cc ss fs h E x_mn
  | (14, _, _) => x_mm P m pc L st cc ss fs h E x_mx
  | _ => none
/-- the end of a method: its kind (0 nothing, 1 int, 2 boolean, 3 long) -/
def x_ret (t : Nat) : Option (List xS) := match st with
  | [v] => if v.1 = t then match fs with
      | [] => if t = 0 ∧ m = 0 ∧ v.2.1 = none ∧ v.2.2 = 1 ∧ cc ≤ x_mc P m ∧ ss ≤ x_ms P m then some [] else none
      | (m', pc', L', st', cc', ss') :: fs' => if cc ≤ x_mc P m ∧ ss ≤ x_ms P m ∧ (t = 0 ∧ x_retk P m = 1 ∨ t = 0 ∧ x_retk P m = 2 ∧ x_fit E 3 v = true ∨ t = 1 ∧ x_retk P m = 3) then some [((m', pc', L', v :: st', cc', ss') :: fs', h, E)] else none
      else none
  | _ => none
def x_retV : Option (List xS) := match st, fs with
  | [], (m', pc', L', st', cc', ss') :: fs' => if cc ≤ x_mc P m ∧ ss ≤ x_ms P m ∧ x_retk P m = 0 then some [((m', pc', L', st', cc', ss') :: fs', h, E)] else none
  | _, _ => none
def x_if (b : Bool) (r : Option (List xS)) : Option (List xS) := cond b r none
def x_push1 (n : Nat) (v : xV) : Option (List xS) := some [x_at m cc ss fs h (pc + n) L (v :: st) E]
def x_ins (i : Instr) (len : Nat) : Option (List xS) := match i with
  | .iconst n => x_if (len == 1) (x_push1 m pc L st cc ss fs h E 1 (0, none, (Int32.ofInt n).toInt))
  | .bipush n => x_if (len == 2) (x_push1 m pc L st cc ss fs h E 2 (0, none, (Int8.ofInt n).toInt32.toInt))
  | .sipush n => x_if (len == 3) (x_push1 m pc L st cc ss fs h E 3 (0, none, (Int16.ofInt n).toInt32.toInt))
  | .lconst k => x_if (len == 1) (x_push1 m pc L st cc ss fs h E 1 (1, none, (Int64.ofNat (k : Nat)).toInt))
  | .ldc idx => x_if (len == 2) (match x_pool P m idx with
    | (7, _, c) => x_push1 m pc L st cc ss fs h E 2 (0, none, c)
    | _ => none)
  | .ldc_w idx => x_if (len == 3) (match x_pool P m idx with
    | (7, _, c) => x_push1 m pc L st cc ss fs h E 3 (0, none, c)
    | _ => none)
  | .ldc2_w idx => x_if (len == 3) (match x_pool P m idx with
    | (8, _, c) => x_push1 m pc L st cc ss fs h E 3 (1, none, c)
    | _ => none)
  | .iload i => x_if (len == 2) (x_ld m pc L st cc ss fs h E 2 0 i)
  | .iload_n i => x_if (len == 1) (x_ld m pc L st cc ss fs h E 1 0 (i : Nat))
  | .lload i => x_if (len == 2) (x_ld m pc L st cc ss fs h E 2 1 i)
  | .lload_n i => x_if (len == 1) (x_ld m pc L st cc ss fs h E 1 1 (i : Nat))
  | .aload i => x_if (len == 2) (x_lda m pc L st cc ss fs h E 2 i)
  | .aload_n i => x_if (len == 1) (x_lda m pc L st cc ss fs h E 1 (i : Nat))
  | .istore i => x_if (len == 2) (x_st P m pc L st cc ss fs h E 2 i)
  | .istore_n i => x_if (len == 1) (x_st P m pc L st cc ss fs h E 1 (i : Nat))
  | .lstore i => x_if (len == 2) (x_stL P m pc L st cc ss fs h E 2 i)
  | .lstore_n i => x_if (len == 1) (x_stL P m pc L st cc ss fs h E 1 (i : Nat))
  | .astore i => x_if (len == 2) (x_stA P m pc L st cc ss fs h E 2 i)
  | .astore_n i => x_if (len == 1) (x_stA P m pc L st cc ss fs h E 1 (i : Nat))
  | .iinc i n => x_if (len == 3) (match x_find L i with
    | some v => if v.1 = 0 ∧ i < x_maxL P m then some [x_at m cc ss fs h (pc + 3) (x_put1 L i (x_addc E v (Int32.ofInt n).toInt).1) st (x_addc E v (Int32.ofInt n).toInt).2] else none
    | none => none)
  | .iadd => x_if (len == 1) (x_op2 m pc L st cc ss fs h E x_add)
  | .isub => x_if (len == 1) (x_op2 m pc L st cc ss fs h E x_sub)
  | .imul => x_if (len == 1) (x_op2 m pc L st cc ss fs h E (x_bin (· * ·)))
  | .iand => x_if (len == 1) (x_op2 m pc L st cc ss fs h E (x_bin (· &&& ·)))
  | .ior => x_if (len == 1) (x_op2 m pc L st cc ss fs h E (x_bin (· ||| ·)))
  | .ixor => x_if (len == 1) (x_op2 m pc L st cc ss fs h E (x_bin (· ^^^ ·)))
  | .ishl => x_if (len == 1) (x_op2 m pc L st cc ss fs h E (x_bin (fun x y => x <<< (y &&& 31))))
  | .ishr => x_if (len == 1) (x_op2 m pc L st cc ss fs h E (x_bin (fun x y => x >>> (y &&& 31))))
  | .iushr => x_if (len == 1) (x_op2 m pc L st cc ss fs h E (x_bin (fun x y => (x.toUInt32 >>> (y.toUInt32 &&& Int32.toUInt32 31)).toInt32)))
  | .idiv => x_if (len == 1) (x_div m pc L st cc ss fs h E (x_bin (· / ·)))
  | .irem => x_if (len == 1) (x_div m pc L st cc ss fs h E (x_bin (fun x y => x - x / y * y)))
  | .ladd => x_if (len == 1) (x_opL m pc L st cc ss fs h E (x_binL (· + ·)))
  | .lsub => x_if (len == 1) (x_opL m pc L st cc ss fs h E (x_binL (· - ·)))
  | .lmul => x_if (len == 1) (x_opL m pc L st cc ss fs h E (x_binL (· * ·)))
  | .land => x_if (len == 1) (x_opL m pc L st cc ss fs h E (x_binL (· &&& ·)))
  | .lor => x_if (len == 1) (x_opL m pc L st cc ss fs h E (x_binL (· ||| ·)))
  | .ldiv => x_if (len == 1) (x_divL m pc L st cc ss fs h E (x_binL (· / ·)))
  | .lrem => x_if (len == 1) (x_divL m pc L st cc ss fs h E (x_binL (fun x y => x - x / y * y)))
  | .lcmp => x_if (len == 1) (x_opL m pc L st cc ss fs h E x_cmpL)
  | .lshl => x_if (len == 1) (x_opS m pc L st cc ss fs h E (x_shL (fun x y => x <<< (y.toInt64 &&& 63))))
  | .lshr => x_if (len == 1) (x_opS m pc L st cc ss fs h E (x_shL (fun x y => x >>> (y.toInt64 &&& 63))))
  | .i2l => x_if (len == 1) (match st with
    | v :: r => if v.1 = 0 then some [x_at m cc ss fs h (pc + 1) L ((1, v.2) :: r) E] else none
    | [] => none)
  | .l2i => x_if (len == 1) (match st with
    | v :: r => if v.1 = 1 then some [x_at m cc ss fs h (pc + 1) L ((x_l2i E v).1 :: r) (x_l2i E v).2] else none
    | [] => none)
  | .dup => x_if (len == 1) (match st with
    | v :: r => if x_cat v = 1 then some [x_at m cc ss fs h (pc + 1) L (v :: v :: r) E] else none
    | [] => none)
  | .pop => x_if (len == 1) (match st with
    | v :: r => if x_cat v = 1 then some [x_at m cc ss fs h (pc + 1) L r E] else none
    | [] => none)
  | .dup2 => x_if (len == 1) (match st with
    | v :: w :: r => if x_cat v = 1 ∧ x_cat w = 1 then some [x_at m cc ss fs h (pc + 1) L (v :: w :: v :: w :: r) E] else none
    | _ => none)
  | .ifCond c off => x_if (len == 3) (match st with
    | v :: r => x_br m pc L cc ss fs h E c v (0, none, 0) r off
    | [] => none)
  | .if_icmp c off => x_if (len == 3) (match st with
    | w :: v :: r => x_br m pc L cc ss fs h E c v w r off
    | _ => none)
  | .goto off => x_if (len == 3) (if 0 ≤ (pc : Int) + off then some [x_at m cc ss fs h ((pc : Int) + off).toNat L st E] else none)
  | .tableswitch dflt lo hi offs => match st with
    | v :: r => x_sw m pc L cc ss fs h E v r dflt lo hi offs.toList
    | [] => none
  | .getfield idx => x_if (len == 3) (x_getf P m pc L st cc ss fs h E idx)
  | .putfield idx => x_if (len == 3) (x_putf P m pc L st cc ss fs h E idx)
  | .iaload => x_if (len == 1) (x_ald m pc L st cc ss fs h E 0 0)
  | .laload => x_if (len == 1) (x_ald m pc L st cc ss fs h E 1 1)
  | .baload => x_if (len == 1) (x_ald m pc L st cc ss fs h E 0 2)
  | .iastore => x_if (len == 1) (x_ast m pc L st cc ss fs h E 0 0)
  | .lastore => x_if (len == 1) (x_ast m pc L st cc ss fs h E 1 1)
  | .bastore => x_if (len == 1) (x_ast m pc L st cc ss fs h E 0 2)
  | .arraylength => x_if (len == 1) (x_alen m pc L st cc ss fs h E)
  | .newarray t => x_if (len == 2) (match t with
    | .int => x_newa P m pc L st cc ss fs h E 0
    | .long => x_newa P m pc L st cc ss fs h E 1
    | .boolean => x_newa P m pc L st cc ss fs h E 2
    | _ => none)
  | .new idx => x_if (len == 3) (x_new P m pc L st cc ss fs h E idx)
  | .invokevirtual idx => x_if (len == 3) (x_invV P m pc L st cc ss fs h E idx)
  | .invokespecial idx => x_if (len == 3) (x_invI P m pc L st cc ss fs h E idx)
  | .invokestatic idx => x_if (len == 3) (x_invS P m pc L st cc ss fs h E idx)
  | .ireturn => x_if (len == 1) (x_ret P m st cc ss fs h E 0)
  | .lreturn => x_if (len == 1) (x_ret P m st cc ss fs h E 1)
  | .return_ => x_if (len == 1) (x_retV P m st cc ss fs h E)
  | _ => none
end XSTEP
def x_step (P : xP) (S : xS) : Option (List xS) := match S with
  | ([], _, _) => none
  | ((m, pc, L, st, cc, ss) :: fs, h, E) => match x_code P m pc with
    | some (i, len) => x_ins P m pc L st cc ss fs h E i len
    | none => none
def x_run (P : xP) : Nat → xS → Bool
  | 0, _ => false
  | n + 1, S => match x_step P S with
    | some [S'] => x_run P n S'
    | some l => l.all (x_run P n)
    | none => false
theorem x_run_ok {P : xP} {n : Nat} {S : xS} (h : x_run P (n + 1) S = true) : ∃ l, x_step P S = some l ∧ ∀ S' ∈ l, x_run P n S' = true := by
  unfold x_run at h
  split at h
  next S' e => exact ⟨[S'], e, fun q hq => by rw [List.mem_singleton.mp hq]; exact h⟩
  next l _ e => exact ⟨l, e, fun q hq => List.all_eq_true.mp h q hq⟩
  next => cases h
