/-! a frame's walk, instruction by instruction -/
def x_rel (D : va_G) (cl : List vw_C) (B0 sc : Nat) (s : State) (ρ : List Int) (ad : List Nat) (h : List xC) (E : xE) (H : Heap) (locs : List Loc) : Prop :=
  ∃ (ws : va_W) (tys : List (ClassId × FieldType)), va_K D cl tys s ∧ va_P D cl ws H ∧ va_D (fun q : Nat => B0 ≤ q) ws ∧ va_S (fun q : Nat => B0 ≤ q) s.heap H locs ∧ x_heap ρ ad sc tys h ws ∧ x_env ρ E
theorem x_rel.grow {D : va_G} {cl : List vw_C} {B0 sc : Nat} {s : State} {ρ ρ' : List Int} {ad : List Nat} {h : List xC} {E E' : xE} {H : Heap} {locs : List Loc} (g : x_rel D cl B0 sc s ρ ad h E H locs) (h1 : x_ext ρ ρ') (h2 : x_env ρ' E') : x_rel D cl B0 sc s ρ' ad h E' H locs := by
  obtain ⟨ws, tys, a1, a2, a3, a4, a5, a6⟩ := g
  exact ⟨ws, tys, a1, a2, a3, a4, a5.mono h1 (x_ext.rf _), h2⟩
theorem x_rel.env {D : va_G} {cl : List vw_C} {B0 sc : Nat} {s : State} {ρ : List Int} {ad : List Nat} {h : List xC} {E : xE} {H : Heap} {locs : List Loc} (g : x_rel D cl B0 sc s ρ ad h E H locs) : x_env ρ E := by
  obtain ⟨ws, tys, a1, a2, a3, a4, a5, a6⟩ := g
  exact a6
def x_frm (nL sc : Nat) (ρ : List Int) (ad : List Nat) (L : List (Nat × xV)) (st : List xV) (ls : Array Slot) (stc : List Value) : Prop :=
  ∃ lv : List (Nat × Value), lv_has ls nL lv ∧ x_locs ρ ad sc L lv ∧ x_vals ρ ad sc st stc
def x_OKs (p : Program) (l : Launch) (e : Env) (R : Room) (s : State) (mid : MethodId) (args : Array Value) (below : List Frame) (meth : Method) (c : Code) (Q : State → Prop) (D : va_G) (cl : List vw_C) (B0 sc nL : Nat) (ρ0 : List Int) (ad0 : List Nat)
    (pc : Nat) (L : List (Nat × xV)) (st : List xV) (cc ss : Nat) (h : List xC) (E : xE) : Prop :=
  ∀ (ρ : List Int) (ad : List Nat) (H : Heap) (locs : List Loc) (ls : Array Slot) (stc : List Value), x_ext ρ0 ρ → x_ext ad0 ad → x_rel D cl B0 sc s ρ ad h E H locs → x_frm nL sc ρ ad L st ls stc →
    W p l e R s mid args below meth c H locs cc ss Q (F0 mid pc ls stc)
section XW
variable {p : Program} {l : Launch} {e : Env} {R : Room} {s : State} {mid : MethodId} {args : Array Value} {below : List Frame} {meth : Method} {c : Code} {Q : State → Prop} {D : va_G} {cl : List vw_C} {B0 sc nL : Nat} {ρ0 : List Int} {ad0 : List Nat}
  {pc : Nat} {L : List (Nat × xV)} {st : List xV} {cc ss : Nat} {h : List xC} {E : xE} {cb : ByteArray}
/-- one more value on the stack, no other change: the row -/
theorem x_w_push {n : Nat} {v : xV} {x : Value} (row : ∀ {H : Heap} {locs : List Loc} {ls : Array Slot} {rest : List Value}, W p l e R s mid args below meth c H locs cc ss Q (F0 mid (pc + n) ls (x :: rest)) → W p l e R s mid args below meth c H locs cc ss Q (F0 mid pc ls rest))
    (hv : ∀ (ρ : List Int) (ad : List Nat), x_val ρ ad sc v x) (k : x_OKs p l e R s mid args below meth c Q D cl B0 sc nL ρ0 ad0 (pc + n) L (v :: st) cc ss h E) : x_OKs p l e R s mid args below meth c Q D cl B0 sc nL ρ0 ad0 pc L st cc ss h E := by
  intro ρ ad H locs ls stc e1 e2 hr hf
  obtain ⟨lv, h1, h2, h3⟩ := hf
  exact row (k ρ ad H locs ls (x :: stc) e1 e2 hr ⟨lv, h1, h2, hv ρ ad, h3⟩)
/-- a local is loaded -/
theorem x_w_load {n i : Nat} {v : xV} (hv : x_find L i = some v) (row : ∀ {x : Value} {ρ : List Int} {ad : List Nat} {H : Heap} {locs : List Loc} {ls : Array Slot} {rest : List Value}, x_val ρ ad sc v x → ls[i]? = some (.val x) → W p l e R s mid args below meth c H locs cc ss Q (F0 mid (pc + n) ls (x :: rest)) → W p l e R s mid args below meth c H locs cc ss Q (F0 mid pc ls rest))
    (k : x_OKs p l e R s mid args below meth c Q D cl B0 sc nL ρ0 ad0 (pc + n) L (v :: st) cc ss h E) : x_OKs p l e R s mid args below meth c Q D cl B0 sc nL ρ0 ad0 pc L st cc ss h E := by
  intro ρ ad H locs ls stc e1 e2 hr hf
  obtain ⟨lv, h1, h2, h3⟩ := hf
  obtain ⟨x, j, g1, g2⟩ := h2.find hv
  exact row g2 (lv_at h1 j g1) (k ρ ad H locs ls (x :: stc) e1 e2 hr ⟨lv, h1, h2, g2, h3⟩)
/-- a local is stored, one word -/
theorem x_w_store1 {n i : Nat} {v : xV} {r : List xV} (row : ∀ {x : Value} {ρ : List Int} {ad : List Nat} {H : Heap} {locs : List Loc} {ls : Array Slot} {rest : List Value} {lv lv' : List (Nat × Value)}, x_val ρ ad sc v x → lv_has ls nL lv → (i, x) :: lv.filter (fun q => !(q.1 == i) && !(q.1 + 1 == i && q.2.category == 2)) = lv' →
      (∀ ls' : Array Slot, lv_has ls' nL lv' → W p l e R s mid args below meth c H locs cc ss Q (F0 mid (pc + n) ls' rest)) → W p l e R s mid args below meth c H locs cc ss Q (F0 mid pc ls (x :: rest)))
    (k : x_OKs p l e R s mid args below meth c Q D cl B0 sc nL ρ0 ad0 (pc + n) (x_put1 L i v) r cc ss h E) : x_OKs p l e R s mid args below meth c Q D cl B0 sc nL ρ0 ad0 pc L (v :: r) cc ss h E := by
  intro ρ ad H locs ls stc e1 e2 hr hf
  obtain ⟨lv, h1, h2, h3⟩ := hf
  obtain ⟨x, ys, rfl, g1, g2⟩ := h3.cons
  exact row g1 h1 rfl (fun ls' h' => k ρ ad H locs ls' ys e1 e2 hr ⟨_, h', h2.put1 g1, g2⟩)
theorem x_w_store2 {n i : Nat} {v : xV} {r : List xV} (row : ∀ {x : Value} {ρ : List Int} {ad : List Nat} {H : Heap} {locs : List Loc} {ls : Array Slot} {rest : List Value} {lv lv' : List (Nat × Value)}, x_val ρ ad sc v x → lv_has ls nL lv → (i, x) :: lv.filter (fun q => !(q.1 == i) && (!(q.1 == i + 1) && !(q.1 + 1 == i && q.2.category == 2))) = lv' →
      (∀ ls' : Array Slot, lv_has ls' nL lv' → W p l e R s mid args below meth c H locs cc ss Q (F0 mid (pc + n) ls' rest)) → W p l e R s mid args below meth c H locs cc ss Q (F0 mid pc ls (x :: rest)))
    (k : x_OKs p l e R s mid args below meth c Q D cl B0 sc nL ρ0 ad0 (pc + n) (x_put2 L i v) r cc ss h E) : x_OKs p l e R s mid args below meth c Q D cl B0 sc nL ρ0 ad0 pc L (v :: r) cc ss h E := by
  intro ρ ad H locs ls stc e1 e2 hr hf
  obtain ⟨lv, h1, h2, h3⟩ := hf
  obtain ⟨x, ys, rfl, g1, g2⟩ := h3.cons
  exact row g1 h1 rfl (fun ls' h' => k ρ ad H locs ls' ys e1 e2 hr ⟨_, h', h2.put2 g1, g2⟩)
theorem x_w_iinc {i : Nat} {n : Int} {v : xV} (hx : p.tables.exec = Jvm.exec) (hb : c.code = cb) (hd : decode cb pc = .ok (.iinc i n, 3)) (hv : x_find L i = some v) (ht : v.1 = 0) (hn : i < nL)
    (k : x_OKs p l e R s mid args below meth c Q D cl B0 sc nL ρ0 ad0 (pc + 3) (x_put1 L i (x_addc E v (Int32.ofInt n).toInt).1) st cc ss h (x_addc E v (Int32.ofInt n).toInt).2) : x_OKs p l e R s mid args below meth c Q D cl B0 sc nL ρ0 ad0 pc L st cc ss h E := by
  intro ρ ad H locs ls stc e1 e2 hr hf
  obtain ⟨lv, h1, h2, h3⟩ := hf
  obtain ⟨x, j, g1, g2⟩ := h2.find hv
  obtain ⟨a, rfl, g3⟩ := g2.int ht
  obtain ⟨t0, ρ', x1, x2, x3⟩ := x_addc_ok (b := Int32.ofInt n) hr.env g3
  refine lv_iinc (v := a + Int32.ofInt n) hx hb hd h1 (k := j) g1 rfl hn rfl (fun ls' h' => ?_)
  exact k ρ' ad H locs ls' stc (e1.tr x1) e2 (hr.grow x1 x2) ⟨_, h', (h2.mono x1 (x_ext.rf _)).put1 (x_val.mkI t0 x3), h3.mono x1 (x_ext.rf _)⟩
/-- two ints give an int -/
theorem x_w_op2 {v w : xV} {r : List xV} (f : xE → xV → xV → xV × xE) (op : Int32 → Int32 → Int32) (hf : ∀ {ρ : List Int} {a b : Int32}, x_env ρ E → x_ev ρ v.2.1 v.2.2 a.toInt → x_ev ρ w.2.1 w.2.2 b.toInt → x_resI ρ (f E v w) (op a b))
    (row : ∀ {x y : Int32} {ρ : List Int} {H : Heap} {locs : List Loc} {ls : Array Slot} {rest : List Value}, x_env ρ E → x_ev ρ w.2.1 w.2.2 y.toInt → W p l e R s mid args below meth c H locs cc ss Q (F0 mid (pc + 1) ls (.int (op x y) :: rest)) → W p l e R s mid args below meth c H locs cc ss Q (F0 mid pc ls (.int y :: .int x :: rest)))
    (hv : v.1 = 0) (hw : w.1 = 0) (k : x_OKs p l e R s mid args below meth c Q D cl B0 sc nL ρ0 ad0 (pc + 1) L ((f E v w).1 :: r) cc ss h (f E v w).2) : x_OKs p l e R s mid args below meth c Q D cl B0 sc nL ρ0 ad0 pc L (w :: v :: r) cc ss h E := by
  intro ρ ad H locs ls stc e1 e2 hr hfr
  obtain ⟨lv, h1, h2, h3⟩ := hfr
  obtain ⟨y, ys, rfl, g1, h4⟩ := h3.cons
  obtain ⟨x, zs, rfl, g2, h5⟩ := h4.cons
  obtain ⟨b, rfl, gb⟩ := g1.int hw
  obtain ⟨a, rfl, ga⟩ := g2.int hv
  obtain ⟨t0, ρ', x1, x2, x3⟩ := hf hr.env ga gb
  exact row hr.env gb (k ρ' ad H locs ls _ (e1.tr x1) e2 (hr.grow x1 x2) ⟨lv, h1, h2.mono x1 (x_ext.rf _), x_val.mkI t0 x3, h5.mono x1 (x_ext.rf _)⟩)
/-- two longs give a long -/
theorem x_w_opL {v w : xV} {r : List xV} (f : xE → xV → xV → xV × xE) (op : Int64 → Int64 → Int64) (hf : ∀ {ρ : List Int} {a b : Int64}, x_env ρ E → x_ev ρ v.2.1 v.2.2 a.toInt → x_ev ρ w.2.1 w.2.2 b.toInt → x_resL ρ (f E v w) (op a b))
    (row : ∀ {x y : Int64} {ρ : List Int} {H : Heap} {locs : List Loc} {ls : Array Slot} {rest : List Value}, x_env ρ E → x_ev ρ w.2.1 w.2.2 y.toInt → W p l e R s mid args below meth c H locs cc ss Q (F0 mid (pc + 1) ls (.long (op x y) :: rest)) → W p l e R s mid args below meth c H locs cc ss Q (F0 mid pc ls (.long y :: .long x :: rest)))
    (hv : v.1 = 1) (hw : w.1 = 1) (k : x_OKs p l e R s mid args below meth c Q D cl B0 sc nL ρ0 ad0 (pc + 1) L ((f E v w).1 :: r) cc ss h (f E v w).2) : x_OKs p l e R s mid args below meth c Q D cl B0 sc nL ρ0 ad0 pc L (w :: v :: r) cc ss h E := by
  intro ρ ad H locs ls stc e1 e2 hr hfr
  obtain ⟨lv, h1, h2, h3⟩ := hfr
  obtain ⟨y, ys, rfl, g1, h4⟩ := h3.cons
  obtain ⟨x, zs, rfl, g2, h5⟩ := h4.cons
  obtain ⟨b, rfl, gb⟩ := g1.long hw
  obtain ⟨a, rfl, ga⟩ := g2.long hv
  obtain ⟨t0, ρ', x1, x2, x3⟩ := hf hr.env ga gb
  exact row hr.env gb (k ρ' ad H locs ls _ (e1.tr x1) e2 (hr.grow x1 x2) ⟨lv, h1, h2.mono x1 (x_ext.rf _), x_val.mkL t0 x3, h5.mono x1 (x_ext.rf _)⟩)
theorem x_w_opS {v w : xV} {r : List xV} (f : xE → xV → xV → xV × xE) (op : Int64 → Int32 → Int64) (hf : ∀ {ρ : List Int} {a : Int64} {b : Int32}, x_env ρ E → x_ev ρ v.2.1 v.2.2 a.toInt → x_ev ρ w.2.1 w.2.2 b.toInt → x_resL ρ (f E v w) (op a b))
    (row : ∀ {x : Int64} {y : Int32} {H : Heap} {locs : List Loc} {ls : Array Slot} {rest : List Value}, W p l e R s mid args below meth c H locs cc ss Q (F0 mid (pc + 1) ls (.long (op x y) :: rest)) → W p l e R s mid args below meth c H locs cc ss Q (F0 mid pc ls (.int y :: .long x :: rest)))
    (hv : v.1 = 1) (hw : w.1 = 0) (k : x_OKs p l e R s mid args below meth c Q D cl B0 sc nL ρ0 ad0 (pc + 1) L ((f E v w).1 :: r) cc ss h (f E v w).2) : x_OKs p l e R s mid args below meth c Q D cl B0 sc nL ρ0 ad0 pc L (w :: v :: r) cc ss h E := by
  intro ρ ad H locs ls stc e1 e2 hr hfr
  obtain ⟨lv, h1, h2, h3⟩ := hfr
  obtain ⟨y, ys, rfl, g1, h4⟩ := h3.cons
  obtain ⟨x, zs, rfl, g2, h5⟩ := h4.cons
  obtain ⟨b, rfl, gb⟩ := g1.int hw
  obtain ⟨a, rfl, ga⟩ := g2.long hv
  obtain ⟨t0, ρ', x1, x2, x3⟩ := hf hr.env ga gb
  exact row (k ρ' ad H locs ls _ (e1.tr x1) e2 (hr.grow x1 x2) ⟨lv, h1, h2.mono x1 (x_ext.rf _), x_val.mkL t0 x3, h5.mono x1 (x_ext.rf _)⟩)
theorem x_w_lcmp {v w : xV} {r : List xV} (hx : p.tables.exec = Jvm.exec) (hb : c.code = cb) (hd : decode cb pc = .ok (.lcmp, 1))
    (hv : v.1 = 1) (hw : w.1 = 1) (k : x_OKs p l e R s mid args below meth c Q D cl B0 sc nL ρ0 ad0 (pc + 1) L ((x_cmpL E v w).1 :: r) cc ss h (x_cmpL E v w).2) : x_OKs p l e R s mid args below meth c Q D cl B0 sc nL ρ0 ad0 pc L (w :: v :: r) cc ss h E := by
  intro ρ ad H locs ls stc e1 e2 hr hfr
  obtain ⟨lv, h1, h2, h3⟩ := hfr
  obtain ⟨y, ys, rfl, g1, h4⟩ := h3.cons
  obtain ⟨x, zs, rfl, g2, h5⟩ := h4.cons
  obtain ⟨b, rfl, gb⟩ := g1.long hw
  obtain ⟨a, rfl, ga⟩ := g2.long hv
  obtain ⟨t0, ρ', x1, x2, x3⟩ := x_cmpL_ok hr.env ga gb
  exact W.lcmp hx hb hd (k ρ' ad H locs ls _ (e1.tr x1) e2 (hr.grow x1 x2) ⟨lv, h1, h2.mono x1 (x_ext.rf _), x_val.mkI t0 x3, h5.mono x1 (x_ext.rf _)⟩)
theorem x_w_i2l {v : xV} {r : List xV} (hx : p.tables.exec = Jvm.exec) (hb : c.code = cb) (hd : decode cb pc = .ok (.i2l, 1)) (hv : v.1 = 0) (k : x_OKs p l e R s mid args below meth c Q D cl B0 sc nL ρ0 ad0 (pc + 1) L ((1, v.2) :: r) cc ss h E) : x_OKs p l e R s mid args below meth c Q D cl B0 sc nL ρ0 ad0 pc L (v :: r) cc ss h E := by
  intro ρ ad H locs ls stc e1 e2 hr hfr
  obtain ⟨lv, h1, h2, h3⟩ := hfr
  obtain ⟨y, ys, rfl, g1, h4⟩ := h3.cons
  obtain ⟨b, rfl, gb⟩ := g1.int hv
  exact lv_i2l hx hb hd rfl (k ρ ad H locs ls _ e1 e2 hr ⟨lv, h1, h2, x_val.mkL (v := (1, v.2)) rfl (x_i2l_ok gb), h4⟩)
theorem x_w_l2i {v : xV} {r : List xV} (hx : p.tables.exec = Jvm.exec) (hb : c.code = cb) (hd : decode cb pc = .ok (.l2i, 1)) (hv : v.1 = 1) (k : x_OKs p l e R s mid args below meth c Q D cl B0 sc nL ρ0 ad0 (pc + 1) L ((x_l2i E v).1 :: r) cc ss h (x_l2i E v).2) : x_OKs p l e R s mid args below meth c Q D cl B0 sc nL ρ0 ad0 pc L (v :: r) cc ss h E := by
  intro ρ ad H locs ls stc e1 e2 hr hfr
  obtain ⟨lv, h1, h2, h3⟩ := hfr
  obtain ⟨y, ys, rfl, g1, h4⟩ := h3.cons
  obtain ⟨b, rfl, gb⟩ := g1.long hv
  obtain ⟨t0, ρ', x1, x2, x3⟩ := x_l2i_ok hr.env gb
  exact lv_l2i hx hb hd rfl (k ρ' ad H locs ls _ (e1.tr x1) e2 (hr.grow x1 x2) ⟨lv, h1, h2.mono x1 (x_ext.rf _), x_val.mkI t0 x3, h4.mono x1 (x_ext.rf _)⟩)
theorem x_w_dup {v : xV} {r : List xV} (hx : p.tables.exec = Jvm.exec) (hb : c.code = cb) (hd : decode cb pc = .ok (.dup, 1)) (hv : x_cat v = 1) (k : x_OKs p l e R s mid args below meth c Q D cl B0 sc nL ρ0 ad0 (pc + 1) L (v :: v :: r) cc ss h E) : x_OKs p l e R s mid args below meth c Q D cl B0 sc nL ρ0 ad0 pc L (v :: r) cc ss h E := by
  intro ρ ad H locs ls stc e1 e2 hr hfr
  obtain ⟨lv, h1, h2, h3⟩ := hfr
  obtain ⟨y, ys, rfl, g1, h4⟩ := h3.cons
  exact lv_dup hx hb hd (by rw [g1.cat]; exact hv) (k ρ ad H locs ls _ e1 e2 hr ⟨lv, h1, h2, g1, g1, h4⟩)
theorem x_w_pop {v : xV} {r : List xV} (hx : p.tables.exec = Jvm.exec) (hb : c.code = cb) (hd : decode cb pc = .ok (.pop, 1)) (hv : x_cat v = 1) (k : x_OKs p l e R s mid args below meth c Q D cl B0 sc nL ρ0 ad0 (pc + 1) L r cc ss h E) : x_OKs p l e R s mid args below meth c Q D cl B0 sc nL ρ0 ad0 pc L (v :: r) cc ss h E := by
  intro ρ ad H locs ls stc e1 e2 hr hfr
  obtain ⟨lv, h1, h2, h3⟩ := hfr
  obtain ⟨y, ys, rfl, g1, h4⟩ := h3.cons
  exact lv_pop hx hb hd (by rw [g1.cat]; exact hv) (k ρ ad H locs ls _ e1 e2 hr ⟨lv, h1, h2, h4⟩)
theorem x_w_dup2 {v w : xV} {r : List xV} (hx : p.tables.exec = Jvm.exec) (hb : c.code = cb) (hd : decode cb pc = .ok (.dup2, 1)) (hv : x_cat v = 1) (hw : x_cat w = 1) (k : x_OKs p l e R s mid args below meth c Q D cl B0 sc nL ρ0 ad0 (pc + 1) L (v :: w :: v :: w :: r) cc ss h E) : x_OKs p l e R s mid args below meth c Q D cl B0 sc nL ρ0 ad0 pc L (v :: w :: r) cc ss h E := by
  intro ρ ad H locs ls stc e1 e2 hr hfr
  obtain ⟨lv, h1, h2, h3⟩ := hfr
  obtain ⟨y, ys, rfl, g1, h4⟩ := h3.cons
  obtain ⟨z, zs, rfl, g2, h5⟩ := h4.cons
  exact lv_dup2_11 hx hb hd (by rw [g1.cat]; exact hv) (by rw [g2.cat]; exact hw) (k ρ ad H locs ls _ e1 e2 hr ⟨lv, h1, h2, g1, g2, g1, g2, h5⟩)
theorem x_w_goto {off : Int} (hx : p.tables.exec = Jvm.exec) (hb : c.code = cb) (hd : decode cb pc = .ok (.goto off, 3)) (ht : 0 ≤ (pc : Int) + off) (k : x_OKs p l e R s mid args below meth c Q D cl B0 sc nL ρ0 ad0 ((pc : Int) + off).toNat L st cc ss h E) : x_OKs p l e R s mid args below meth c Q D cl B0 sc nL ρ0 ad0 pc L st cc ss h E := by
  intro ρ ad H locs ls stc e1 e2 hr hfr
  exact lv_goto hx hb hd (by omega) (k ρ ad H locs ls stc e1 e2 hr hfr)
theorem x_w_br {cn : ClassFile.Cond} {v w : xV} {r : List xV} {tgt : Nat} (hv : v.1 = 0) (hw : w.1 = 0) {st0 : List xV} (hst : ∀ {ρ : List Int} {ad : List Nat} {stc : List Value}, x_vals ρ ad sc st0 stc → ∃ x y rest, (x_vals ρ ad sc r rest ∧ x_val ρ ad sc v x ∧ x_val ρ ad sc w y) ∧
      ∀ {H : Heap} {locs : List Loc} {ls : Array Slot} {a b : Int32}, x = .int a → y = .int b → (x_holds cn a.toInt b.toInt → W p l e R s mid args below meth c H locs cc ss Q (F0 mid tgt ls rest)) → (¬ x_holds cn a.toInt b.toInt → W p l e R s mid args below meth c H locs cc ss Q (F0 mid (pc + 3) ls rest)) → W p l e R s mid args below meth c H locs cc ss Q (F0 mid pc ls stc))
    (kt : ∀ E' ∈ x_alts E cn v w, x_OKs p l e R s mid args below meth c Q D cl B0 sc nL ρ0 ad0 tgt L r cc ss h E') (kf : ∀ E' ∈ x_alts E (x_neg cn) v w, x_OKs p l e R s mid args below meth c Q D cl B0 sc nL ρ0 ad0 (pc + 3) L r cc ss h E') : x_OKs p l e R s mid args below meth c Q D cl B0 sc nL ρ0 ad0 pc L st0 cc ss h E := by
  intro ρ ad H locs ls stc e1 e2 hr hfr
  obtain ⟨lv, h1, h2, h3⟩ := hfr
  obtain ⟨x, y, rest, ⟨g0, g1, g2⟩, row⟩ := hst h3
  obtain ⟨a, rfl, ga⟩ := g1.int hv
  obtain ⟨b, rfl, gb⟩ := g2.int hw
  refine row rfl rfl (fun hc => ?_) (fun hc => ?_)
  · obtain ⟨E', m, k⟩ := x_alts_ok hr.env ga gb (x_b32 a) (x_b32 b) hc
    exact kt E' m ρ ad H locs ls rest e1 e2 (hr.grow (x_ext.rf _) k) ⟨lv, h1, h2, g0⟩
  · obtain ⟨E', m, k⟩ := x_alts_ok hr.env ga gb (x_b32 a) (x_b32 b) (x_neg_ok hc)
    exact kf E' m ρ ad H locs ls rest e1 e2 (hr.grow (x_ext.rf _) k) ⟨lv, h1, h2, g0⟩
theorem x_le32 {a b : Int32} : a ≤ b ↔ ¬ b.toInt < a.toInt := by rw [Int32.le_iff_toInt_le]; omega
theorem x_w_icmp {cn : ClassFile.Cond} {off : Int} {v w : xV} {r : List xV} (hx : p.tables.exec = Jvm.exec) (hb : c.code = cb) (hd : decode cb pc = .ok (.if_icmp cn off, 3)) (ht : 0 ≤ (pc : Int) + off) (hv : v.1 = 0) (hw : w.1 = 0)
    (kt : ∀ E' ∈ x_alts E cn v w, x_OKs p l e R s mid args below meth c Q D cl B0 sc nL ρ0 ad0 ((pc : Int) + off).toNat L r cc ss h E') (kf : ∀ E' ∈ x_alts E (x_neg cn) v w, x_OKs p l e R s mid args below meth c Q D cl B0 sc nL ρ0 ad0 (pc + 3) L r cc ss h E') : x_OKs p l e R s mid args below meth c Q D cl B0 sc nL ρ0 ad0 pc L (w :: v :: r) cc ss h E := by
  refine x_w_br hv hw (fun {ρ ad stc} h3 => ?_) kt kf
  obtain ⟨y, ys, rfl, g1, h4⟩ := h3.cons
  obtain ⟨x, zs, rfl, g2, h5⟩ := h4.cons
  refine ⟨x, y, zs, ⟨h5, g2, g1⟩, fun {H locs ls a b} ea eb k1 k2 => ?_⟩
  subst ea
  subst eb
  have ht' : (pc : Int) + off = (((pc : Int) + off).toNat : Int) := by omega
  cases cn with
  | eq => exact lv_icmp_eq hx hb hd ht' (fun q => k1 (by rw [q]; exact rfl)) (fun q => k2 (fun z => q (Int32.toInt_inj.mp z)))
  | ne => exact lv_icmp_ne hx hb hd ht' (fun q => k1 (fun z => q (Int32.toInt_inj.mp z))) (fun q => k2 (fun z => z (by rw [q])))
  | lt => exact lv_icmp_lt hx hb hd ht' (fun q => k1 (Int32.lt_iff_toInt_lt.mp q)) (fun q => k2 (fun z => q (Int32.lt_iff_toInt_lt.mpr z)))
  | ge => exact lv_icmp_ge hx hb hd ht' (fun q => k1 (x_le32.mp q)) (fun q => k2 (fun z => q (x_le32.mpr z)))
  | gt => exact lv_icmp_gt hx hb hd ht' (fun q => k1 (Int32.lt_iff_toInt_lt.mp q)) (fun q => k2 (fun z => q (Int32.lt_iff_toInt_lt.mpr z)))
  | le => exact lv_icmp_le hx hb hd ht' (fun q => k1 (x_le32.mp q)) (fun q => k2 (fun z => q (x_le32.mpr z)))
theorem x_w_ifc {cn : ClassFile.Cond} {off : Int} {v : xV} {r : List xV} (hx : p.tables.exec = Jvm.exec) (hb : c.code = cb) (hd : decode cb pc = .ok (.ifCond cn off, 3)) (ht : 0 ≤ (pc : Int) + off) (hv : v.1 = 0)
    (kt : ∀ E' ∈ x_alts E cn v (0, none, 0), x_OKs p l e R s mid args below meth c Q D cl B0 sc nL ρ0 ad0 ((pc : Int) + off).toNat L r cc ss h E') (kf : ∀ E' ∈ x_alts E (x_neg cn) v (0, none, 0), x_OKs p l e R s mid args below meth c Q D cl B0 sc nL ρ0 ad0 (pc + 3) L r cc ss h E') : x_OKs p l e R s mid args below meth c Q D cl B0 sc nL ρ0 ad0 pc L (v :: r) cc ss h E := by
  refine x_w_br (w := (0, none, 0)) hv rfl (fun {ρ ad stc} h3 => ?_) kt kf
  obtain ⟨x, zs, rfl, g2, h4⟩ := h3.cons
  refine ⟨x, .int 0, zs, ⟨h4, g2, ⟨0, rfl, rfl⟩⟩, fun {H locs ls a b} ea eb k1 k2 => ?_⟩
  subst ea
  cases eb
  have ht' : (pc : Int) + off = (((pc : Int) + off).toNat : Int) := by omega
  cases cn with
  | eq => exact lv_if_eq hx hb hd ht' (fun q => k1 (by rw [q]; exact rfl)) (fun q => k2 (fun z => q (Int32.toInt_inj.mp z)))
  | ne => exact lv_if_ne hx hb hd ht' (fun q => k1 (fun z => q (Int32.toInt_inj.mp z))) (fun q => k2 (fun z => z (by rw [q])))
  | lt => exact lv_if_lt hx hb hd ht' (fun q => k1 (Int32.lt_iff_toInt_lt.mp q)) (fun q => k2 (fun z => q (Int32.lt_iff_toInt_lt.mpr z)))
  | ge => exact lv_if_ge hx hb hd ht' (fun q => k1 (x_le32.mp q)) (fun q => k2 (fun z => q (x_le32.mpr z)))
  | gt => exact lv_if_gt hx hb hd ht' (fun q => k1 (Int32.lt_iff_toInt_lt.mp q)) (fun q => k2 (fun z => q (Int32.lt_iff_toInt_lt.mpr z)))
  | le => exact lv_if_le hx hb hd ht' (fun q => k1 (x_le32.mp q)) (fun q => k2 (fun z => q (x_le32.mpr z)))
end XW
