/-! the program as tables, and what the Statement's words say of them -/
abbrev xP : Type := (Nat → Nat → Option (Instr × Nat)) × (Nat → Nat → Nat × Nat × Int) × (Nat → Nat × Nat × Nat) × (Nat → List Nat) × (Nat → MethodName) × (Nat → ByteArray) × (Nat → Option FieldType)
def x_code (P : xP) : Nat → Nat → Option (Instr × Nat) := P.1
def x_pool (P : xP) : Nat → Nat → Nat × Nat × Int := P.2.1
def x_maxL (P : xP) (m : Nat) : Nat := (P.2.2.1 m).1
def x_retk (P : xP) (m : Nat) : Nat := (P.2.2.1 m).2.1
def x_mci (P : xP) (m : Nat) : Nat := (P.2.2.1 m).2.2
def x_cls (P : xP) : Nat → List Nat := P.2.2.2.1
def x_nm (P : xP) : Nat → MethodName := P.2.2.2.2.1
def x_by (P : xP) : Nat → ByteArray := P.2.2.2.2.2.1
def x_rt (P : xP) : Nat → Option FieldType := P.2.2.2.2.2.2
def x_ext {α : Type} (a b : List α) : Prop := ∃ t, b = a ++ t
theorem x_ext.rf {α : Type} (a : List α) : x_ext a a := ⟨[], by simp⟩
theorem x_ext.tr {α : Type} {a b c : List α} (h : x_ext a b) (g : x_ext b c) : x_ext a c := by
  obtain ⟨t, rfl⟩ := h
  obtain ⟨u, rfl⟩ := g
  exact ⟨t ++ u, by rw [List.append_assoc]⟩
theorem x_ext.get {α : Type} {a b : List α} (h : x_ext a b) {i : Nat} {q : α} (e : a[i]? = some q) : b[i]? = some q := by
  obtain ⟨t, rfl⟩ := h
  rw [List.getElem?_append_left (List.getElem?_eq_some_iff.mp e).1]
  exact e
theorem x_ext.app {α : Type} (a t : List α) : x_ext a (a ++ t) := ⟨t, rfl⟩
theorem x_ext.len {α : Type} {a b : List α} (h : x_ext a b) : a.length ≤ b.length := by
  obtain ⟨t, rfl⟩ := h
  rw [List.length_append]
  omega
def x_tbl : List Cond := lw_tbl.filter goodWord
def x_isNest : Cond → Bool
  | .methodLinkNest .. => true
  | _ => false
def x_nest : List Cond := lw_tbl.filter x_isNest
def x_tyk (k : Nat) (ty : FieldType) : Prop := match k with
  | 0 => ty = .int
  | 1 => ty = .long
  | 2 => (∃ n, ty = .object n) ∨ ∃ t, ty = .array t
  | 3 => ty = .boolean
  | _ => False
def x_rtk (k : Nat) (ty : Option FieldType) : Prop := match k with
  | 0 => ty = none
  | 1 => ty = some .int
  | 2 => ty = some .boolean
  | 3 => ty = some .long
  | 4 => ∃ t, ty = some (.array t)
  | _ => True
/-- a class of the worlds -/
def x_okc (P : xP) (ci : Nat) (q : vw_C) : Prop := (∀ w ∈ u_ws q.1 q.2.1 q.2.2, w ∈ x_tbl) ∧ q.2.2 = (x_cls P ci).length ∧ (∀ a, a < q.2.2 → ∀ b, b < q.2.2 → a ≠ b → (q.2.1 a).2.1 ≠ (q.2.1 b).2.1) ∧
  ∃ ty : Nat → FieldType, (∀ k, k < q.2.2 → parseFieldDescriptor (q.2.1 k).2.2.1 = some (ty k)) ∧ ∀ (k kd : Nat), (x_cls P ci)[k]? = some kd → x_tyk (kd % 10) (ty k) ∧ (q.2.1 k).2.2.2 = decide (10 ≤ kd) ∧ (q.2.1 k).1 = q.1
def x_okm (P : xP) (j : Nat) : Prop := Cond.code (x_nm P j) (x_by P j) (x_maxL P j) (x_rt P j) ∈ x_tbl ∧ Cond.initialized (x_nm P j).cls ∈ x_tbl ∧ plainFor (x_nm P j) = true ∧ ((x_nm P j).cls ≠ "java/lang/invoke/MethodHandle" ∧ (x_nm P j).cls ≠ "java/lang/invoke/VarHandle") ∧ x_rtk (x_retk P j) (x_rt P j) ∧ j ≠ 0
def x_oka (P : xP) (j : Nat) (n : Int) : Prop := (parseMethodDescriptor (x_nm P j).desc).map (fun d => d.parameters.length) = some n.toNat
def x_okp (cl : List vw_C) (P : xP) (own : String) (idx : Nat) (q : Nat × Nat × Int) : Prop := match q.1 with
  | 1 => ∃ C : vw_C, cl[q.2.1]? = some C ∧ q.2.2.toNat < C.2.2 ∧ Cond.fieldLink own idx (C.2.1 q.2.2.toNat).1 (C.2.1 q.2.2.toNat).2.1 (C.2.1 q.2.2.toNat).2.2.1 ∈ x_tbl
  | 2 => x_okm P q.2.1 ∧ x_oka P q.2.1 q.2.2 ∧ Cond.methodLink own idx (x_nm P q.2.1) ∈ x_tbl ∧ Cond.instanceMethod (x_nm P q.2.1) ∈ x_tbl ∧ Cond.selects (x_nm P q.2.1).cls (x_nm P q.2.1) (x_nm P q.2.1) ∈ x_tbl ∧ ∃ C : vw_C, cl[x_mci P q.2.1]? = some C ∧ C.1 = (x_nm P q.2.1).cls
  | 3 => x_okm P q.2.1 ∧ x_oka P q.2.1 q.2.2 ∧ Cond.methodLink own idx (x_nm P q.2.1) ∈ x_tbl ∧ Cond.instanceMethod (x_nm P q.2.1) ∈ x_tbl ∧ (x_nm P q.2.1).name = "<init>" ∧ x_rt P q.2.1 = none
  | 4 => x_okm P q.2.1 ∧ x_oka P q.2.1 q.2.2 ∧ (∃ host : String, Cond.methodLinkNest own idx (x_nm P q.2.1) host ∈ x_nest) ∧ Cond.instanceMethod (x_nm P q.2.1) ∈ x_tbl ∧ (x_nm P q.2.1).name = "<init>" ∧ x_rt P q.2.1 = none
  | 5 => Cond.methodLink own idx objectInit ∈ x_tbl ∧ Cond.instanceMethod objectInit ∈ x_tbl ∧ Cond.code objectInit ⟨#[0xb1]⟩ 1 none ∈ x_tbl
  | 6 => x_okm P q.2.1 ∧ x_oka P q.2.1 q.2.2 ∧ Cond.methodLink own idx (x_nm P q.2.1) ∈ x_tbl ∧ Cond.static (x_nm P q.2.1) ∈ x_tbl
  | 7 => ∃ v : Int32, Cond.constant own idx v ∈ x_tbl ∧ v.toInt = q.2.2
  | 8 => ∃ v : Int64, Cond.constantLong own idx v ∈ x_tbl ∧ v.toInt = q.2.2
  | 9 => ∃ C : vw_C, cl[q.2.1]? = some C ∧ Cond.classLink own idx C.1 ∈ x_tbl ∧ Cond.instantiable C.1 C.2.2 ∈ x_tbl ∧ Cond.initialized C.1 ∈ x_tbl
  | 10 => Cond.methodLink own idx arraycopyName ∈ x_tbl ∧ Cond.native arraycopyName ∈ x_tbl ∧ Cond.static arraycopyName ∈ x_tbl ∧ Cond.initialized "java/lang/System" ∈ x_tbl
  | 12 => x_okm P q.2.1 ∧ x_oka P q.2.1 q.2.2 ∧ (∃ host : String, Cond.methodLinkNest own idx (x_nm P q.2.1) host ∈ x_nest) ∧ Cond.instanceMethod (x_nm P q.2.1) ∈ x_tbl ∧ Cond.selects (x_nm P q.2.1).cls (x_nm P q.2.1) (x_nm P q.2.1) ∈ x_tbl ∧ ∃ C : vw_C, cl[x_mci P q.2.1]? = some C ∧ C.1 = (x_nm P q.2.1).cls
  | _ => True
def x_OK (cl : List vw_C) (P : xP) : Prop := (∀ (m pc : Nat) (i : Instr) (len : Nat), x_code P m pc = some (i, len) → decode (x_by P m) pc = .ok (i, len)) ∧ (∀ (ci : Nat) (q : vw_C), cl[ci]? = some q → x_okc P ci q) ∧
  (∀ m idx : Nat, x_okp cl P (x_nm P m).cls idx (x_pool P m idx)) ∧ Cond.arrayClass .int ∈ x_tbl ∧ Cond.arrayClass .long ∈ x_tbl ∧ Cond.arrayClass .boolean ∈ x_tbl ∧ ∀ (m : Nat) (C : vw_C), (x_nm P m).name = "<init>" → cl[x_mci P m]? = some C → C.1 = (x_nm P m).cls
def x_isRet (i : Instr) : Prop := i = .ireturn ∨ i = .lreturn ∨ i = .areturn ∨ i = .return_
theorem x_goodIn {w0 : Cond} (h : w0 ∈ x_tbl) : GoodIn x_tbl (w0 :: x_tbl) := by
  have hg : ∀ w ∈ x_tbl, w ∈ x_tbl ∧ ((w.onTables && w.keeps) = true ∨ ∃ ty, w = .arrayClass ty) := fun w hw => ⟨hw, good_of_word (List.mem_filter.mp hw).2⟩
  intro w hw
  rcases List.mem_cons.mp hw with rfl | hw
  · exact hg _ h
  · exact hg _ hw
theorem x_nest_on {w : Cond} (hw : w ∈ x_nest) : w.onTables = true := by
  have hn : x_isNest w = true := (List.mem_filter.mp hw).2
  cases w <;> first | rfl | cases hn
theorem x_nest_warm {s U : State} (hW : s.WarmedH U.vm) (h : ∀ w ∈ x_nest, va_Nw w s) : ∀ w ∈ x_nest, va_Nw w U := by
  intro w hw
  have hn : x_isNest w = true := (List.mem_filter.mp hw).2
  have := h w hw
  revert this
  cases w <;> first | (intro hz; exact va_Nw.warmM hW hz) | cases hn
/-- Met.ofW, of a method for which no program's table has a row -/
theorem Met.ofWF {l : Launch} {y : MethodName} {ws ws' : List Cond} {rm : Room} {Pc : Array Value → State → Prop} {Qc : Array Value → State → Outcome → State → Prop} {mc ms : Nat} {free : Addr → Prop} {cc : ByteArray} {maxL : Nat} {ret : Option FieldType}
    (hy : plainFor y = true) (hw : ws = Cond.code y cc maxL ret :: ws')
    (body : ∀ p e s m args below meth c s₁, BodyLoose p l y (headSpec ws rm) cc maxL ret e s m args below meth c s₁ → c.maxLocals = maxL → Pc args s →
      W p l e (headSpec ws rm).room s m args below meth c s.heap [] 0 0 (MQ below Qc args s mc ms free) (entryFrame m args maxL)) : Met l y ws rm Pc Qc mc ms free := by
  refine MetFree.of_bodySF (code := cc) (maxLocals := maxL) (ret := ret) hy ?_ ?_
  · intro args s m h hn
    obtain ⟨meth, c, h1, h2, h3, h4, h5, h6, -, -⟩ := Cond.code_spec hn (atoms_spec (ws := ws) h _ (by rw [hw]; exact List.mem_cons_self))
    exact ⟨meth, c, h1, h2, h3, h4, h5, h6⟩
  · intro p e s m args below meth c s₁ B hml hP _
    have hh0 : s₁.heap = s.heap := by rw [B.state]; rfl
    obtain ⟨t, a1, o, b1, b2, b3⟩ := body p e s m args below meth c s₁ B hml hP s₁ hh0 (Stand.of_body B)
    exact ⟨t, o, a1, b1, b2, ⟨b3.1, b3.2⟩⟩
theorem x_clamp {i : Int32} {n : Nat} (h1 : 0 ≤ i.toInt) (h2 : i.toInt < n) : vp_in i n ∧ i.toNatClampNeg = i.toInt.toNat ∧ i.toInt.toNat < n :=
  ⟨vp_in_iff.mpr ⟨h1, h2⟩, rfl, by omega⟩
theorem x_of32 {a : Int32} {c : Int} (h : a.toInt = c) : Int32.ofInt c = a := by rw [← h]; exact Int32.ofInt_toInt a
theorem x_of64 {a : Int64} {c : Int} (h : a.toInt = c) : Int64.ofInt c = a := by rw [← h]; exact Int64.ofInt_toInt a
theorem x_le32 {a b : Int32} : a ≤ b ↔ ¬ b.toInt < a.toInt := by rw [Int32.le_iff_toInt_le]; omega
theorem x_len {len n : Nat} (h : (len == n) = true) : len = n := by simpa using h
