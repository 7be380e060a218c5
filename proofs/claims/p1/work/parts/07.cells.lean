/-! what the tables say, and the instructions that touch cells -/
def x_tbl : List Cond := lw_tbl.filter goodWord
def x_isNest : Cond → Bool
  | .methodLinkNest .. => true
  | _ => false
def x_nest : List Cond := lw_tbl.filter x_isNest
def x_tyk (k : Nat) (ty : FieldType) : Prop := match k with
  | 0 => ty = .int
  | 1 => ty = .long
  | 2 => (∃ n, ty = .object n) ∨ ∃ t, ty = .array t
  | 3 => ty = .boolean
  | _ => False
def x_rtk (k : Nat) (ty : Option FieldType) : Prop := match k with
  | 0 => ty = none
  | 1 => ty = some .int
  | 2 => ty = some .boolean
  | 3 => ty = some .long
  | _ => True
/-- a class of the worlds -/
def x_okc (P : xP) (ci : Nat) (q : vw_C) : Prop := (∀ w ∈ u_ws q.1 q.2.1 q.2.2, w ∈ x_tbl) ∧ q.2.2 = (x_cls P ci).length ∧ (∀ a, a < q.2.2 → ∀ b, b < q.2.2 → a ≠ b → (q.2.1 a).2.1 ≠ (q.2.1 b).2.1) ∧
  ∃ ty : Nat → FieldType, (∀ k, k < q.2.2 → parseFieldDescriptor (q.2.1 k).2.2.1 = some (ty k)) ∧ ∀ (k kd : Nat), (x_cls P ci)[k]? = some kd → x_tyk (kd % 10) (ty k) ∧ (q.2.1 k).2.2.2 = decide (10 ≤ kd) ∧ (q.2.1 k).1 = q.1
def x_okm (P : xP) (j : Nat) : Prop := Cond.code (x_nm P j) (x_by P j) (x_maxL P j) (x_rt P j) ∈ x_tbl ∧ Cond.initialized (x_nm P j).cls ∈ x_tbl ∧ plainName (x_nm P j).cls = true ∧ ((x_nm P j).cls ≠ "java/lang/invoke/MethodHandle" ∧ (x_nm P j).cls ≠ "java/lang/invoke/VarHandle") ∧ x_rtk (x_retk P j) (x_rt P j) ∧ j ≠ 0
def x_oka (P : xP) (j : Nat) (n : Int) : Prop := (parseMethodDescriptor (x_nm P j).desc).map (fun d => d.parameters.length) = some n.toNat
def x_okp (cl : List vw_C) (P : xP) (own : String) (idx : Nat) (q : Nat × Nat × Int) : Prop := match q.1 with
  | 1 => ∃ C : vw_C, cl[q.2.1]? = some C ∧ q.2.2.toNat < C.2.2 ∧ Cond.fieldLink own idx (C.2.1 q.2.2.toNat).1 (C.2.1 q.2.2.toNat).2.1 (C.2.1 q.2.2.toNat).2.2.1 ∈ x_tbl
  | 2 => x_okm P q.2.1 ∧ x_oka P q.2.1 q.2.2 ∧ Cond.methodLink own idx (x_nm P q.2.1) ∈ x_tbl ∧ Cond.instanceMethod (x_nm P q.2.1) ∈ x_tbl ∧ Cond.selects (x_nm P q.2.1).cls (x_nm P q.2.1) (x_nm P q.2.1) ∈ x_tbl ∧ ∃ C : vw_C, cl[x_mci P q.2.1]? = some C ∧ C.1 = (x_nm P q.2.1).cls
  | 3 => x_okm P q.2.1 ∧ x_oka P q.2.1 q.2.2 ∧ Cond.methodLink own idx (x_nm P q.2.1) ∈ x_tbl ∧ Cond.instanceMethod (x_nm P q.2.1) ∈ x_tbl ∧ (x_nm P q.2.1).name = "<init>" ∧ x_rt P q.2.1 = none
  | 4 => x_okm P q.2.1 ∧ x_oka P q.2.1 q.2.2 ∧ (∃ host : String, Cond.methodLinkNest own idx (x_nm P q.2.1) host ∈ x_nest) ∧ Cond.instanceMethod (x_nm P q.2.1) ∈ x_tbl ∧ (x_nm P q.2.1).name = "<init>" ∧ x_rt P q.2.1 = none
  | 5 => Cond.methodLink own idx objectInit ∈ x_tbl ∧ Cond.instanceMethod objectInit ∈ x_tbl ∧ Cond.code objectInit ⟨#[0xb1]⟩ 1 none ∈ x_tbl
  | 6 => x_okm P q.2.1 ∧ x_oka P q.2.1 q.2.2 ∧ Cond.methodLink own idx (x_nm P q.2.1) ∈ x_tbl ∧ Cond.static (x_nm P q.2.1) ∈ x_tbl
  | 7 => ∃ v : Int32, Cond.constant own idx v ∈ x_tbl ∧ v.toInt = q.2.2
  | 8 => ∃ v : Int64, Cond.constantLong own idx v ∈ x_tbl ∧ v.toInt = q.2.2
  | 9 => ∃ C : vw_C, cl[q.2.1]? = some C ∧ Cond.classLink own idx C.1 ∈ x_tbl ∧ Cond.instantiable C.1 C.2.2 ∈ x_tbl ∧ Cond.initialized C.1 ∈ x_tbl
  | 10 => Cond.methodLink own idx arraycopyName ∈ x_tbl ∧ Cond.native arraycopyName ∈ x_tbl ∧ Cond.static arraycopyName ∈ x_tbl ∧ Cond.initialized "java/lang/System" ∈ x_tbl
  | 13 => Cond.methodLink own idx Lib.Math.min.name ∈ x_tbl ∧ Cond.static Lib.Math.min.name ∈ x_tbl ∧ Cond.initialized "java/lang/Math" ∈ x_tbl ∧ Cond.code Lib.Math.min.name Lib.Math.min.code 2 (some .int) ∈ x_tbl
  | 14 => Cond.methodLink own idx Lib.Math.max.name ∈ x_tbl ∧ Cond.static Lib.Math.max.name ∈ x_tbl ∧ Cond.initialized "java/lang/Math" ∈ x_tbl ∧ Cond.code Lib.Math.max.name Lib.Math.max.code 2 (some .int) ∈ x_tbl
  | _ => True
def x_OK (cl : List vw_C) (P : xP) : Prop := (∀ (m pc : Nat) (i : Instr) (len : Nat), x_code P m pc = some (i, len) → decode (x_by P m) pc = .ok (i, len)) ∧ (∀ (ci : Nat) (q : vw_C), cl[ci]? = some q → x_okc P ci q) ∧
  (∀ m idx : Nat, x_okp cl P (x_nm P m).cls idx (x_pool P m idx)) ∧ Cond.arrayClass .int ∈ x_tbl ∧ Cond.arrayClass .long ∈ x_tbl ∧ Cond.arrayClass .boolean ∈ x_tbl ∧ ∀ (m : Nat) (C : vw_C), (x_nm P m).name = "<init>" → cl[x_mci P m]? = some C → C.1 = (x_nm P m).cls
theorem x_fit_ok {ρ : List Int} {ad : List Nat} {sc : Nat} {E : xE} {kd : Nat} {v : xV} {x : Value} {ty : FieldType} (hE : x_env ρ E) (hv : x_val ρ ad sc v x) (hf : x_fit E kd v = true) (ht : x_tyk (kd % 10) ty) : narrow ty x = x ∧ fits ty x = true := by
  unfold x_fit at hf
  generalize kd % 10 = k at hf ht
  match k, hf, ht with
  | 0, hf, ht =>
    have ht : ty = .int := ht
    obtain ⟨n, rfl, -⟩ := hv.int (by simpa using hf)
    subst ht
    exact ⟨rfl, rfl⟩
  | 1, hf, ht =>
    have ht : ty = .long := ht
    obtain ⟨n, rfl, -⟩ := hv.long (by simpa using hf)
    subst ht
    exact ⟨rfl, rfl⟩
  | 2, hf, ht =>
    obtain ⟨t, b, c⟩ := v
    have ht : (∃ n, ty = .object n) ∨ ∃ t, ty = .array t := ht
    simp only [Bool.or_eq_true, beq_iff_eq] at hf
    have hx : x = .null ∨ ∃ a, x = .ref a := by
      rcases hf with h1 | h1
      · subst h1; exact Or.inl hv
      · subst h1; obtain ⟨a, h2, -⟩ := hv; exact Or.inr ⟨a, h2⟩
    rcases ht with ⟨n, rfl⟩ | ⟨n, rfl⟩ <;> rcases hx with rfl | ⟨a, rfl⟩ <;> exact ⟨rfl, rfl⟩
  | 3, hf, ht =>
    have ht : ty = .boolean := ht
    simp only [Bool.and_eq_true, beq_iff_eq, decide_eq_true_eq] at hf
    obtain ⟨n, rfl, g⟩ := hv.int hf.1.1
    have hb := x_iv_ok hE g
    subst ht
    have h01 : n = 0 ∨ n = 1 := by
      have : n.toInt = 0 ∨ n.toInt = 1 := by omega
      rcases this with q | q
      · exact Or.inl (Int32.toInt_inj.mp q)
      · exact Or.inr (Int32.toInt_inj.mp q)
    rcases h01 with rfl | rfl <;> exact ⟨rfl, rfl⟩
  | _ + 4, hf, _ => cases hf
section XC
variable {p : Program} {l : Launch} {e : Env} {R : Room} {s : State} {mid : MethodId} {args : Array Value} {below : List Frame} {meth : Method} {c : Code} {Q : State → Prop} {D : va_G} {cl : List vw_C} {B0 sc nL : Nat} {ρ0 : List Int} {ad0 : List Nat}
  {pc : Nat} {L : List (Nat × xV)} {st : List xV} {cc ss : Nat} {h : List xC} {E : xE} {cb : ByteArray} {P : xP} {own : String}
theorem x_w_get {idx : Nat} {b : Option Nat} {k : Int} {r : List xV} {ci : Nat} {f : Int} {vs : List xV} {v : xV} (hx : p.tables.exec = Jvm.exec) (hb : c.code = cb) (hown : s.vm.findClass own = some mid.cls) (hts : ∀ w ∈ x_tbl, w.before args s = true) (hC : ∀ (ci : Nat) (q : vw_C), cl[ci]? = some q → x_okc P ci q) (hp : x_okp cl P own idx (1, ci, f))
    (hd : decode cb pc = .ok (.getfield idx, 3)) (ho : h[k.toNat]? = some (.inr (ci, vs))) (hv : vs[f.toNat]? = some v) (kk : x_OKs p l e R s mid args below meth c Q D cl B0 sc nL ρ0 ad0 (pc + 3) L (v :: r) cc ss h E) : x_OKs p l e R s mid args below meth c Q D cl B0 sc nL ρ0 ad0 pc L ((3, b, k) :: r) cc ss h E := by
  intro ρ ad H locs ls stc e1 e2 hr hfr
  obtain ⟨lv, h1, h2, h3⟩ := hfr
  obtain ⟨y, ys, rfl, g1, h4⟩ := h3.cons
  obtain ⟨a, rfl, ga⟩ := g1
  have hr0 := hr
  obtain ⟨ws, tys, aK, aP, aD, aS, aH, aE⟩ := hr
  obtain ⟨ev, w1, w2⟩ := aH.at ho ga
  obtain ⟨xs, rfl, w3⟩ := w2
  obtain ⟨x, w4, w5⟩ := w3.get hv
  obtain ⟨⟨C, T, N⟩, p1, p2, p3⟩ := hp
  obtain ⟨c1, -⟩ := hC ci (C, T, N) p1
  exact va_get hx hb hts c1 hown aK aP k.toNat w1 p1 f.toNat p2 (hts _ p3) (fun _ q => q) w4 hd (kk ρ ad H locs ls _ e1 e2 hr0 ⟨lv, h1, h2, w5, h4⟩)
theorem x_w_put {idx : Nat} {b : Option Nat} {k : Int} {r : List xV} {ci : Nat} {f : Int} {vs : List xV} {v : xV} {kd : Nat} (hx : p.tables.exec = Jvm.exec) (hb : c.code = cb) (hown : s.vm.findClass own = some mid.cls) (hts : ∀ w ∈ x_tbl, w.before args s = true) (hC : ∀ (ci : Nat) (q : vw_C), cl[ci]? = some q → x_okc P ci q) (hp : x_okp cl P own idx (1, ci, f))
    (hd : decode cb pc = .ok (.putfield idx, 3)) (ho : h[k.toNat]? = some (.inr (ci, vs))) (hl : f.toNat < vs.length) (hkd : (x_cls P ci)[f.toNat]? = some kd) (hfit : x_fit E kd v = true) (hfin : kd < 10 ∨ meth.name = "<init>" ∧ ∀ C : vw_C, cl[ci]? = some C → C.1 = own)
    (kk : x_OKs p l e R s mid args below meth c Q D cl B0 sc nL ρ0 ad0 (pc + 3) L r cc ss (h.set k.toNat (.inr (ci, vs.set f.toNat v))) E) : x_OKs p l e R s mid args below meth c Q D cl B0 sc nL ρ0 ad0 pc L (v :: (3, b, k) :: r) cc ss h E := by
  intro ρ ad H locs ls stc e1 e2 hr hfr
  obtain ⟨lv, h1, h2, h3⟩ := hfr
  obtain ⟨x, xs0, rfl, gx, h4⟩ := h3.cons
  obtain ⟨y, ys, rfl, g1, h5⟩ := h4.cons
  obtain ⟨a, rfl, ga⟩ := g1
  obtain ⟨ws, tys, aK, aP, aD, aS, aH, aE⟩ := hr
  obtain ⟨ev, w1, w2⟩ := aH.at ho ga
  obtain ⟨xs, rfl, w3⟩ := w2
  obtain ⟨⟨C, T, N⟩, p1, p2, p3⟩ := hp
  obtain ⟨c1, c2, c3, ty, c4, c5⟩ := hC ci (C, T, N) p1
  obtain ⟨c6, c7, c8⟩ := c5 f.toNat kd hkd
  obtain ⟨f1, f2⟩ := x_fit_ok aE gx hfit c6
  have hl' : f.toNat < xs.length := by rw [← w3.len]; exact hl
  rcases hfin with hfin | ⟨hin, hown2⟩
  · exact va_put hx hb hts c1 ty c4 c3 hown aK aP aD aS k.toNat w1 p1 f.toNat p2 (hts _ p3) (fun _ q => q) (by rw [c7]; simp; omega) (c4 _ p2) f1 f2 hl' hd
      (fun H1 locs1 hP hD hS => kk ρ ad H1 locs1 ls _ e1 e2 ⟨_, tys, aK, hP, hD, hS, aH.set w1 ⟨_, rfl, w3.set gx⟩, aE⟩ ⟨lv, h1, h2, h5⟩)
  · by_cases hk : kd < 10
    · exact va_put hx hb hts c1 ty c4 c3 hown aK aP aD aS k.toNat w1 p1 f.toNat p2 (hts _ p3) (fun _ q => q) (by rw [c7]; simp; omega) (c4 _ p2) f1 f2 hl' hd
        (fun H1 locs1 hP hD hS => kk ρ ad H1 locs1 ls _ e1 e2 ⟨_, tys, aK, hP, hD, hS, aH.set w1 ⟨_, rfl, w3.set gx⟩, aE⟩ ⟨lv, h1, h2, h5⟩)
    · exact va_putF hx hb hts c1 ty c4 c3 hown aK aP aD aS k.toNat w1 p1 f.toNat p2 (hts _ p3) (fun _ q => q) (by rw [c7]; simp; omega) hin (c8.trans (hown2 _ p1)) (c4 _ p2) f1 f2 hl' hd
        (fun H1 locs1 hP hD hS => kk ρ ad H1 locs1 ls _ e1 e2 ⟨_, tys, aK, hP, hD, hS, aH.set w1 ⟨_, rfl, w3.set gx⟩, aE⟩ ⟨lv, h1, h2, h5⟩)
theorem x_w_ald {i : xV} {b : Option Nat} {k : Int} {r : List xV} {a : xA} {q : xV × xE} {ty : Nat} {ins : Instr} (hx : p.tables.exec = Jvm.exec) (hb : c.code = cb) (hd : decode cb pc = .ok (ins, 1)) (hi : i.1 = 0) (hty : a.1 = ty) (ho : h[k.toNat]? = some (.inl a))
    (hcase : (ins = .iaload ∧ ty = 0 ∧ x_rd 0 E a i = some q) ∨ (ins = .laload ∧ ty = 1 ∧ x_rd 1 E a i = some q) ∨ (ins = .baload ∧ ty = 2 ∧ x_rd 0 E a i = some q))
    (kk : x_OKs p l e R s mid args below meth c Q D cl B0 sc nL ρ0 ad0 (pc + 1) L (q.1 :: r) cc ss h q.2) : x_OKs p l e R s mid args below meth c Q D cl B0 sc nL ρ0 ad0 pc L (i :: (3, b, k) :: r) cc ss h E := by
  intro ρ ad H locs ls stc e1 e2 hr hfr
  obtain ⟨lv, h1, h2, h3⟩ := hfr
  obtain ⟨x, xs0, rfl, gx, h4⟩ := h3.cons
  obtain ⟨y, ys, rfl, g1, h5⟩ := h4.cons
  obtain ⟨ad1, rfl, ga⟩ := g1
  obtain ⟨n, rfl, gn⟩ := gx.int hi
  have hr0 := hr
  obtain ⟨ws, tys, aK, aP, aD, aS, aH, aE⟩ := hr
  obtain ⟨ev, w1, w2⟩ := aH.at ho ga
  obtain ⟨t, nn, lo, hi', ov⟩ := a
  have hty : t = ty := hty
  subst hty
  rcases hcase with ⟨rfl, rfl, hq⟩ | ⟨rfl, rfl, hq⟩ | ⟨rfl, rfl, hq⟩
  · obtain ⟨cA, f, rfl, ⟨t0, ht⟩, w3⟩ := w2
    obtain ⟨v1, t1, ρ', x1, x2, x3⟩ := x_rd_okI aE w3 gn hq
    exact va_iald hx hb aK aP k.toNat t0 w1 ht v1 hd (kk ρ' ad H locs ls _ (e1.tr x1) e2 (hr0.grow x1 x2) ⟨lv, h1, h2.mono x1 (x_ext.rf _), x_val.mkI t1 x3, h5.mono x1 (x_ext.rf _)⟩)
  · obtain ⟨cA, f, rfl, ⟨t0, ht⟩, w3⟩ := w2
    obtain ⟨v1, t1, ρ', x1, x2, x3⟩ := x_rd_okL aE w3 gn hq
    exact va_lald hx hb aK aP k.toNat t0 w1 ht v1 hd (kk ρ' ad H locs ls _ (e1.tr x1) e2 (hr0.grow x1 x2) ⟨lv, h1, h2.mono x1 (x_ext.rf _), x_val.mkL t1 x3, h5.mono x1 (x_ext.rf _)⟩)
  · obtain ⟨cA, f, rfl, ⟨t0, ht⟩, w3⟩ := w2
    obtain ⟨v1, t1, ρ', x1, x2, x3⟩ := x_rd_okI aE w3 gn hq
    exact va_zald hx hb aK aP k.toNat t0 w1 ht v1 hd (kk ρ' ad H locs ls _ (e1.tr x1) e2 (hr0.grow x1 x2) ⟨lv, h1, h2.mono x1 (x_ext.rf _), x_val.mkI t1 x3, h5.mono x1 (x_ext.rf _)⟩)
theorem x_w_ast {v i : xV} {b : Option Nat} {k : Int} {r : List xV} {a a' : xA} {ty : Nat} {ins : Instr} (hx : p.tables.exec = Jvm.exec) (hb : c.code = cb) (hd : decode cb pc = .ok (ins, 1)) (hi : i.1 = 0) (hty : a.1 = ty) (ho : h[k.toNat]? = some (.inl a))
    (hcase : (ins = .iastore ∧ ty = 0 ∧ v.1 = 0 ∧ x_wr 0 E a i v = some a') ∨ (ins = .lastore ∧ ty = 1 ∧ v.1 = 1 ∧ x_wr 1 E a i v = some a') ∨ (ins = .bastore ∧ ty = 2 ∧ v.1 = 0 ∧ x_fit E 3 v = true ∧ x_wr 0 E a i v = some a'))
    (kk : x_OKs p l e R s mid args below meth c Q D cl B0 sc nL ρ0 ad0 (pc + 1) L r cc ss (h.set k.toNat (.inl a')) E) : x_OKs p l e R s mid args below meth c Q D cl B0 sc nL ρ0 ad0 pc L (v :: i :: (3, b, k) :: r) cc ss h E := by
  intro ρ ad H locs ls stc e1 e2 hr hfr
  obtain ⟨lv, h1, h2, h3⟩ := hfr
  obtain ⟨z, zs, rfl, gz, h4⟩ := h3.cons
  obtain ⟨x, xs0, rfl, gx, h5⟩ := h4.cons
  obtain ⟨y, ys, rfl, g1, h6⟩ := h5.cons
  obtain ⟨ad1, rfl, ga⟩ := g1
  obtain ⟨n, rfl, gn⟩ := gx.int hi
  obtain ⟨ws, tys, aK, aP, aD, aS, aH, aE⟩ := hr
  obtain ⟨ev, w1, w2⟩ := aH.at ho ga
  obtain ⟨t, nn, lo, hi', ov⟩ := a
  have hty : t = ty := hty
  subst hty
  rcases hcase with ⟨rfl, rfl, hv, hq⟩ | ⟨rfl, rfl, hv, hq⟩ | ⟨rfl, rfl, hv, hfz, hq⟩
  · obtain ⟨cA, f, rfl, ⟨t0, ht⟩, w3⟩ := w2
    obtain ⟨m, rfl, gm⟩ := gz.int hv
    obtain ⟨v1, q1, q2, q3⟩ := x_wr_ok aE (g' := fun j => (upd f n.toNatClampNeg m j).toInt) w3 gn gm (by simp [upd]) (fun j hj => by simp [upd, hj]) (fun j hj => by rw [if_neg (by decide)]; exact x_i32 _) hq
    obtain ⟨t', n', lo2, hi2, ov2⟩ := a'
    have q1 : t' = 0 := q1
    have q2 : n' = nn := q2
    subst q1
    subst q2
    exact va_iast hx hb aK aP aD aS k.toNat t0 w1 ht v1 hd (fun H1 locs1 hP hD hS => kk ρ ad H1 locs1 ls _ e1 e2 ⟨_, tys, aK, hP, hD, hS, aH.set w1 ⟨cA, _, rfl, ⟨t0, ht⟩, q3⟩, aE⟩ ⟨lv, h1, h2, h6⟩)
  · obtain ⟨cA, f, rfl, ⟨t0, ht⟩, w3⟩ := w2
    obtain ⟨m, rfl, gm⟩ := gz.long hv
    obtain ⟨v1, q1, q2, q3⟩ := x_wr_ok aE (g' := fun j => (vp_updL f n.toNatClampNeg m j).toInt) w3 gn gm (by simp [vp_updL]) (fun j hj => by simp [vp_updL, hj]) (fun j hj => by rw [if_pos rfl]; exact x_i64 _) hq
    obtain ⟨t', n', lo2, hi2, ov2⟩ := a'
    have q1 : t' = 1 := q1
    have q2 : n' = nn := q2
    subst q1
    subst q2
    exact va_last hx hb aK aP aD aS k.toNat t0 w1 ht v1 hd (fun H1 locs1 hP hD hS => kk ρ ad H1 locs1 ls _ e1 e2 ⟨_, tys, aK, hP, hD, hS, aH.set w1 ⟨cA, _, rfl, ⟨t0, ht⟩, q3⟩, aE⟩ ⟨lv, h1, h2, h6⟩)
  · obtain ⟨cA, f, rfl, ⟨t0, ht⟩, w3⟩ := w2
    have hfit := x_fit_ok (kd := 3) aE gz hfz (show x_tyk 3 .boolean from rfl)
    obtain ⟨m, rfl, gm⟩ := gz.int hv
    have hnar : vp_nar .boolean m = m := by
      unfold vp_nar
      rw [hfit.1]
    obtain ⟨v1, q1, q2, q3⟩ := x_wr_ok aE (g' := fun j => (upd f n.toNatClampNeg (vp_nar .boolean m) j).toInt) w3 gn gm (by simp [upd, hnar]) (fun j hj => by simp [upd, hj]) (fun j hj => by rw [if_neg (by decide)]; exact x_i32 _) hq
    obtain ⟨t', n', lo2, hi2, ov2⟩ := a'
    have q1 : t' = 2 := q1
    have q2 : n' = nn := q2
    subst q1
    subst q2
    exact va_zast hx hb aK aP aD aS k.toNat t0 w1 ht v1 hd (fun H1 locs1 hP hD hS => kk ρ ad H1 locs1 ls _ e1 e2 ⟨_, tys, aK, hP, hD, hS, aH.set w1 ⟨cA, _, rfl, ⟨t0, ht⟩, q3⟩, aE⟩ ⟨lv, h1, h2, h6⟩)
theorem x_w_alen {b : Option Nat} {k : Int} {r : List xV} {a : xA} (hx : p.tables.exec = Jvm.exec) (hb : c.code = cb) (hd : decode cb pc = .ok (.arraylength, 1)) (ho : h[k.toNat]? = some (.inl a)) (ha : a.1 < 3)
    (kk : x_OKs p l e R s mid args below meth c Q D cl B0 sc nL ρ0 ad0 (pc + 1) L ((0, none, (Int32.ofNat a.2.1).toInt) :: r) cc ss h E) : x_OKs p l e R s mid args below meth c Q D cl B0 sc nL ρ0 ad0 pc L ((3, b, k) :: r) cc ss h E := by
  intro ρ ad H locs ls stc e1 e2 hr hfr
  obtain ⟨lv, h1, h2, h3⟩ := hfr
  obtain ⟨y, ys, rfl, g1, h4⟩ := h3.cons
  obtain ⟨ad1, rfl, ga⟩ := g1
  have hr0 := hr
  obtain ⟨ws, tys, aK, aP, aD, aS, aH, aE⟩ := hr
  obtain ⟨ev, w1, w2⟩ := aH.at ho ga
  obtain ⟨t, nn, lo, hi', ov⟩ := a
  have fin : W p l e R s mid args below meth c H locs cc ss Q (F0 mid (pc + 1) ls (.int (Int32.ofNat nn) :: ys)) := kk ρ ad H locs ls _ e1 e2 hr0 ⟨lv, h1, h2, ⟨_, rfl, rfl⟩, h4⟩
  match t, ha, w2 with
  | 0, _, w2 =>
    obtain ⟨cA, f, rfl, ⟨t0, ht⟩, w3⟩ := w2
    exact va_alen hx hb aK aP k.toNat t0 w1 ht rfl hd fin
  | 1, _, w2 =>
    obtain ⟨cA, f, rfl, ⟨t0, ht⟩, w3⟩ := w2
    exact va_alen hx hb aK aP k.toNat t0 w1 ht rfl hd fin
  | 2, _, w2 =>
    obtain ⟨cA, f, rfl, ⟨t0, ht⟩, w3⟩ := w2
    exact va_alen hx hb aK aP k.toNat t0 w1 ht rfl hd fin
  | t + 3, ha, _ => exact absurd (show t + 3 < 3 from ha) (by omega)
theorem x_n32 {n : Int} (h0 : 0 ≤ n) (h1 : n ≤ 60000000) {m : Int32} (hm : m.toInt = n) : ¬ m < 0 ∧ m.toNatClampNeg = n.toNat := by
  refine ⟨fun q => ?_, ?_⟩
  · have := Int32.lt_iff_toInt_lt.mp q
    rw [hm] at this
    have z : (0 : Int32).toInt = 0 := rfl
    omega
  · show m.toInt.toNat = n.toNat
    rw [hm]
theorem x_arr0 {ρ : List Int} {n : Nat} {g : Nat → Int} (hg : ∀ j, g j = 0) : x_arr ρ n 0 0 [] g := fun j _ => by
  show (0 : Int) ≤ g j ∧ g j ≤ 0
  rw [hg j]
  exact ⟨Int.le_refl _, Int.le_refl _⟩
theorem x_w_newa {n : Int} {r : List xV} {ty : Nat} {at_ : ArrayType} (hx : p.tables.exec = Jvm.exec) (hb : c.code = cb) (hts : ∀ w ∈ x_tbl, w.before args s = true) (hI : Cond.arrayClass .int ∈ x_tbl) (hJ : Cond.arrayClass .long ∈ x_tbl) (hZ : Cond.arrayClass .boolean ∈ x_tbl) (hB : B0 ≤ s.heap.size)
    (hd : decode cb pc = .ok (.newarray at_, 2)) (hcase : at_ = .int ∧ ty = 0 ∨ at_ = .long ∧ ty = 1 ∨ at_ = .boolean ∧ ty = 2) (hn0 : 0 ≤ n) (hn1 : n ≤ 60000000) (hc : cc + 1 ≤ R.cells) (hs : ss + n.toNat ≤ R.slots)
    (kk : x_OKs p l e R s mid args below meth c Q D cl B0 sc nL ρ0 ad0 (pc + 2) L ((3, none, (h.length : Int)) :: r) (cc + 1) (ss + n.toNat) (h ++ [.inl (ty, n.toNat, 0, 0, [])]) E) : x_OKs p l e R s mid args below meth c Q D cl B0 sc nL ρ0 ad0 pc L ((0, none, n) :: r) cc ss h E := by
  intro ρ ad H locs ls stc e1 e2 hr hfr
  obtain ⟨lv, h1, h2, h3⟩ := hfr
  obtain ⟨y, ys, rfl, g1, h4⟩ := h3.cons
  obtain ⟨m, rfl, gm⟩ := g1
  have gm : m.toInt = n := gm
  obtain ⟨m1, m2⟩ := x_n32 hn0 hn1 gm
  obtain ⟨ws, tys, aK, aP, aD, aS, aH, aE⟩ := hr
  have hA : ∀ q, s.heap.size ≤ q → (fun q : Nat => B0 ≤ q) q := fun q z => Nat.le_trans hB z
  have go : ∀ (a0 : vp_A) (ty0 : FieldType), newarray.typeOf at_ = ty0 → Cond.arrayClass ty0 ∈ x_tbl → (∀ cA : ClassId, vp_cell cA a0 = arrV cA n.toNat (fun _ => defaultValue ty0)) → n.toNat * componentBytes ty0 ≤ 536870912 →
      (∀ (cA : ClassId) (q : Nat) (tys' : List (ClassId × FieldType)), tys'[tys.length]? = some (cA, ty0) → x_cell ρ (ad ++ [q]) sc tys' (.inl (ty, n.toNat, 0, 0, [])) (.inl (cA, a0))) → W p l e R s mid args below meth c H locs cc ss Q (F0 mid pc ls (.int m :: ys)) := by
    intro a0 ty0 hty hac hcell hby hx9
    refine va_newa hx hb (by rw [hty]; exact hts _ hac) hty aK aP aD aS hA hcell m1 m2 hby hc hs hd (fun q cA H1 hK hP hD hS => ?_)
    have hK' : x_ext tys (tys ++ [(cA, ty0)]) := x_ext.app _ _
    refine kk ρ (ad ++ [q]) H1 locs ls _ e1 (e2.tr (x_ext.app _ _)) ⟨_, _, hK, hP, hD, hS, (aH.mono (x_ext.rf _) hK').push (hx9 cA q _ (by rw [List.getElem?_append_right (Nat.le_refl _)]; simp)), aE⟩ ⟨lv, h1, h2.mono (x_ext.rf _) (x_ext.app _ _), ⟨q, rfl, ?_⟩, h4.mono (x_ext.rf _) (x_ext.app _ _)⟩
    show (ad ++ [q])[((h.length : Int)).toNat]? = some q
    rw [Int.toNat_natCast, ← aH.adlen, List.getElem?_append_right (Nat.le_refl _)]
    simp
  rcases hcase with ⟨rfl, rfl⟩ | ⟨rfl, rfl⟩ | ⟨rfl, rfl⟩
  · exact go (n.toNat, .inl (fun _ => 0)) .int rfl hI (fun _ => rfl) (by show n.toNat * 4 ≤ _; omega) (fun cA q tys' ht => ⟨cA, _, rfl, ⟨_, ht⟩, x_arr0 (fun _ => rfl)⟩)
  · exact go (n.toNat, .inr (.inl (fun _ => 0))) .long rfl hJ (fun _ => rfl) (by show n.toNat * 8 ≤ _; omega) (fun cA q tys' ht => ⟨cA, _, rfl, ⟨_, ht⟩, x_arr0 (fun _ => rfl)⟩)
  · exact go (n.toNat, .inl (fun _ => 0)) .boolean rfl hZ (fun _ => rfl) (by show n.toNat * 1 ≤ _; omega) (fun cA q tys' ht => ⟨cA, _, rfl, ⟨_, ht⟩, x_arr0 (fun _ => rfl)⟩)
theorem x_dflt_ok {k : Nat} {ty : FieldType} (h : x_tyk k ty) {ρ : List Int} {ad : List Nat} {sc : Nat} : x_val ρ ad sc (x_dflt k) (defaultValue ty) := by
  match k, h with
  | 0, h => cases (show ty = .int from h); exact ⟨0, rfl, rfl⟩
  | 1, h => cases (show ty = .long from h); exact ⟨0, rfl, rfl⟩
  | 2, h =>
    rcases (show (∃ n, ty = .object n) ∨ ∃ t, ty = .array t from h) with ⟨n, rfl⟩ | ⟨n, rfl⟩ <;> exact rfl
  | 3, h => cases (show ty = .boolean from h); exact ⟨0, rfl, rfl⟩
  | _ + 4, h => exact h.elim
theorem x_dflts {ρ : List Int} {ad : List Nat} {sc : Nat} (ty : Nat → FieldType) : ∀ (l : List Nat) (n : Nat), (∀ (k kd : Nat), l[k]? = some kd → x_tyk (kd % 10) (ty (n + k))) → x_vals ρ ad sc (l.map (fun k => x_dflt (k % 10))) ((List.range' n l.length).map (fun j => defaultValue (ty j)))
  | [], _, _ => trivial
  | a :: l, n, h => by
    show x_vals ρ ad sc (x_dflt (a % 10) :: l.map (fun k => x_dflt (k % 10))) (((List.range' n (l.length + 1)).map (fun j => defaultValue (ty j))))
    rw [List.range'_succ, List.map_cons]
    refine ⟨x_dflt_ok (h 0 a rfl), x_dflts ty l (n + 1) (fun k kd hk => ?_)⟩
    have := h (k + 1) kd (by simpa using hk)
    rw [show n + 1 + k = n + (k + 1) by omega]
    exact this
theorem x_w_new {idx ci : Nat} {z : Int} (hx : p.tables.exec = Jvm.exec) (hb : c.code = cb) (hown : s.vm.findClass own = some mid.cls) (hts : ∀ w ∈ x_tbl, w.before args s = true) (hC : ∀ (ci : Nat) (q : vw_C), cl[ci]? = some q → x_okc P ci q) (hp : x_okp cl P own idx (9, ci, z)) (hB : B0 ≤ s.heap.size)
    (hd : decode cb pc = .ok (.new idx, 3)) (hc : cc + 1 ≤ R.cells) (hs : ss + (x_cls P ci).length ≤ R.slots)
    (kk : x_OKs p l e R s mid args below meth c Q D cl B0 sc nL ρ0 ad0 (pc + 3) L ((3, none, (h.length : Int)) :: st) (cc + 1) (ss + (x_cls P ci).length) (h ++ [.inr (ci, (x_cls P ci).map (fun k => x_dflt (k % 10)))]) E) : x_OKs p l e R s mid args below meth c Q D cl B0 sc nL ρ0 ad0 pc L st cc ss h E := by
  intro ρ ad H locs ls stc e1 e2 hr hfr
  obtain ⟨lv, h1, h2, h3⟩ := hfr
  obtain ⟨ws, tys, aK, aP, aD, aS, aH, aE⟩ := hr
  obtain ⟨⟨C, T, N⟩, p1, p2, p3, p4⟩ := hp
  obtain ⟨c1, c2, c3, ty, c4, c5⟩ := hC ci (C, T, N) p1
  have c2 : N = (x_cls P ci).length := c2
  have hA : ∀ q, s.heap.size ≤ q → (fun q : Nat => B0 ≤ q) q := fun q z => Nat.le_trans hB z
  subst c2
  refine va_new (fs := (List.range' 0 (x_cls P ci).length).map (fun j => defaultValue (ty j))) hx hb hts c1 ty c4 hown (hts _ p2) (hts _ p3) (hts _ p4) aK aP aD aS hA p1 (fun j hj => ?_) hc hs hd (fun q H1 hP hD hS => ?_)
  · unfold vp_V
    rw [List.getD_eq_getElem?_getD, List.getElem?_map, List.getElem?_range' (by omega)]
    simp
  · refine kk ρ (ad ++ [q]) H1 locs ls _ e1 (e2.tr (x_ext.app _ _)) ⟨_, tys, aK, hP, hD, hS, aH.push ⟨_, rfl, x_dflts ty (x_cls P ci) 0 (fun k kd hk => by rw [Nat.zero_add]; exact (c5 k kd hk).1)⟩, aE⟩ ⟨lv, h1, h2.mono (x_ext.rf _) (x_ext.app _ _), ⟨q, rfl, ?_⟩, h3.mono (x_ext.rf _) (x_ext.app _ _)⟩
    show (ad ++ [q])[((h.length : Int)).toNat]? = some q
    rw [Int.toNat_natCast, ← aH.adlen, List.getElem?_append_right (Nat.le_refl _)]
    simp
end XC
