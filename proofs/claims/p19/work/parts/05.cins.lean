/-! the pure machine's instructions, one by one, in the real one -/
def c_rel (P : xP) (D : va_G) (cl : List vw_C) (B0 sc : Nat) (s : State) (ad : List Nat) (h : cH) (H : Heap) (locs : List Loc) : Prop :=
  ∃ (ws : va_W) (tys : List (ClassId × FieldType)), va_K D cl tys s ∧ va_P D cl ws H ∧ va_D (fun q : Nat => B0 ≤ q) ws ∧ va_S (fun q : Nat => B0 ≤ q) s.heap H locs ∧ c_heap P ad sc tys h ws
def c_frm (nL sc : Nat) (ad : List Nat) (L : List (Nat × cV)) (st : List cV) (ls : Array Slot) (stc : List Value) : Prop :=
  ∃ lv : List (Nat × Value), lv_has ls nL lv ∧ c_locs ad sc L lv ∧ c_vals ad sc st stc
def c_OKs (p : Program) (l : Launch) (e : Env) (R : Room) (s : State) (mid : MethodId) (args : Array Value) (below : List Frame) (meth : Method) (c : Code) (Q : State → Prop) (P : xP) (D : va_G) (cl : List vw_C) (B0 sc nL : Nat) (ad0 : List Nat) (n0 s0 : Nat)
    (pc : Nat) (L : List (Nat × cV)) (st : List cV) (h : cH) : Prop :=
  ∀ (ad : List Nat) (H : Heap) (locs : List Loc) (ls : Array Slot) (stc : List Value), x_ext ad0 ad → c_rel P D cl B0 sc s ad h H locs → c_frm nL sc ad L st ls stc →
    W p l e R s mid args below meth c H locs (h.1.length - n0) (c_sz P h.1 - s0) Q (F0 mid pc ls stc)
theorem W.cells_eq {p : Program} {l : Launch} {e : Env} {R : Room} {s : State} {m : MethodId} {args : Array Value} {below : List Frame} {meth : Method} {c : Code} {H : Heap} {locs : List Loc} {a a' b b' : Nat} {Q : State → Prop} {g : JFrame} (h1 : a = a') (h2 : b = b') (k : W p l e R s m args below meth c H locs a' b' Q g) : W p l e R s m args below meth c H locs a b Q g := by
  subst h1
  subst h2
  exact k
section CW
variable {p : Program} {l : Launch} {e : Env} {R : Room} {s : State} {mid : MethodId} {args : Array Value} {below : List Frame} {meth : Method} {c : Code} {Q : State → Prop} {P : xP} {D : va_G} {cl : List vw_C} {B0 sc nL : Nat} {ad0 : List Nat} {n0 s0 : Nat}
  {pc : Nat} {L : List (Nat × cV)} {st : List cV} {h : cH} {cb : ByteArray} {own : String}
theorem c_w_push {n : Nat} {v : cV} {x : Value} (row : ∀ {H : Heap} {locs : List Loc} {ls : Array Slot} {rest : List Value} {a b : Nat}, W p l e R s mid args below meth c H locs a b Q (F0 mid (pc + n) ls (x :: rest)) → W p l e R s mid args below meth c H locs a b Q (F0 mid pc ls rest))
    (hv : ∀ ad : List Nat, c_val ad sc v x) (k : c_OKs p l e R s mid args below meth c Q P D cl B0 sc nL ad0 n0 s0 (pc + n) L (v :: st) h) : c_OKs p l e R s mid args below meth c Q P D cl B0 sc nL ad0 n0 s0 pc L st h := by
  intro ad H locs ls stc e2 hr hf
  obtain ⟨lv, h1, h2, h3⟩ := hf
  exact row (k ad H locs ls (x :: stc) e2 hr ⟨lv, h1, h2, hv ad, h3⟩)
theorem c_w_load {n i : Nat} {v : cV} (hv : c_find L i = some v) (row : ∀ {x : Value} {ad : List Nat} {H : Heap} {locs : List Loc} {ls : Array Slot} {rest : List Value} {a b : Nat}, c_val ad sc v x → ls[i]? = some (.val x) → W p l e R s mid args below meth c H locs a b Q (F0 mid (pc + n) ls (x :: rest)) → W p l e R s mid args below meth c H locs a b Q (F0 mid pc ls rest))
    (k : c_OKs p l e R s mid args below meth c Q P D cl B0 sc nL ad0 n0 s0 (pc + n) L (v :: st) h) : c_OKs p l e R s mid args below meth c Q P D cl B0 sc nL ad0 n0 s0 pc L st h := by
  intro ad H locs ls stc e2 hr hf
  obtain ⟨lv, h1, h2, h3⟩ := hf
  obtain ⟨x, j, g1, g2⟩ := h2.find hv
  exact row g2 (lv_at h1 j g1) (k ad H locs ls (x :: stc) e2 hr ⟨lv, h1, h2, g2, h3⟩)
theorem c_w_store1 {n i : Nat} {v : cV} {r : List cV} (row : ∀ {x : Value} {ad : List Nat} {H : Heap} {locs : List Loc} {ls : Array Slot} {rest : List Value} {lv lv' : List (Nat × Value)} {a b : Nat}, c_val ad sc v x → lv_has ls nL lv → (i, x) :: lv.filter (fun q => !(q.1 == i) && !(q.1 + 1 == i && q.2.category == 2)) = lv' →
      (∀ ls' : Array Slot, lv_has ls' nL lv' → W p l e R s mid args below meth c H locs a b Q (F0 mid (pc + n) ls' rest)) → W p l e R s mid args below meth c H locs a b Q (F0 mid pc ls (x :: rest)))
    (k : c_OKs p l e R s mid args below meth c Q P D cl B0 sc nL ad0 n0 s0 (pc + n) (c_put1 L i v) r h) : c_OKs p l e R s mid args below meth c Q P D cl B0 sc nL ad0 n0 s0 pc L (v :: r) h := by
  intro ad H locs ls stc e2 hr hf
  obtain ⟨lv, h1, h2, h3⟩ := hf
  obtain ⟨x, ys, rfl, g1, g2⟩ := h3.cons
  exact row g1 h1 rfl (fun ls' h' => k ad H locs ls' ys e2 hr ⟨_, h', h2.put1 g1, g2⟩)
theorem c_w_store2 {n i : Nat} {v : cV} {r : List cV} (row : ∀ {x : Value} {ad : List Nat} {H : Heap} {locs : List Loc} {ls : Array Slot} {rest : List Value} {lv lv' : List (Nat × Value)} {a b : Nat}, c_val ad sc v x → lv_has ls nL lv → (i, x) :: lv.filter (fun q => !(q.1 == i) && (!(q.1 == i + 1) && !(q.1 + 1 == i && q.2.category == 2))) = lv' →
      (∀ ls' : Array Slot, lv_has ls' nL lv' → W p l e R s mid args below meth c H locs a b Q (F0 mid (pc + n) ls' rest)) → W p l e R s mid args below meth c H locs a b Q (F0 mid pc ls (x :: rest)))
    (k : c_OKs p l e R s mid args below meth c Q P D cl B0 sc nL ad0 n0 s0 (pc + n) (c_put2 L i v) r h) : c_OKs p l e R s mid args below meth c Q P D cl B0 sc nL ad0 n0 s0 pc L (v :: r) h := by
  intro ad H locs ls stc e2 hr hf
  obtain ⟨lv, h1, h2, h3⟩ := hf
  obtain ⟨x, ys, rfl, g1, g2⟩ := h3.cons
  exact row g1 h1 rfl (fun ls' h' => k ad H locs ls' ys e2 hr ⟨_, h', h2.put2 g1, g2⟩)
theorem c_bin_ok {op : Int32 → Int32 → Int32} {a b : Int32} {x y : Int} (ha : a.toInt = x) (hb : b.toInt = y) : (op a b).toInt = c_bin op x y := by
  unfold c_bin
  rw [x_of32 ha, x_of32 hb]
theorem c_binL_ok {op : Int64 → Int64 → Int64} {a b : Int64} {x y : Int} (ha : a.toInt = x) (hb : b.toInt = y) : (op a b).toInt = c_binL op x y := by
  unfold c_binL
  rw [x_of64 ha, x_of64 hb]
theorem c_w_iinc {i : Nat} {n : Int} {v : cV} (hx : p.tables.exec = Jvm.exec) (hb : c.code = cb) (hd : decode cb pc = .ok (.iinc i n, 3)) (hv : c_find L i = some v) (ht : v.1 = 0) (hn : i < nL)
    (k : c_OKs p l e R s mid args below meth c Q P D cl B0 sc nL ad0 n0 s0 (pc + 3) (c_put1 L i (0, c_bin (· + ·) v.2 (Int32.ofInt n).toInt)) st h) : c_OKs p l e R s mid args below meth c Q P D cl B0 sc nL ad0 n0 s0 pc L st h := by
  intro ad H locs ls stc e2 hr hf
  obtain ⟨lv, h1, h2, h3⟩ := hf
  obtain ⟨x, j, g1, g2⟩ := h2.find hv
  obtain ⟨a, rfl, g3⟩ := g2.int ht
  refine lv_iinc (v := a + Int32.ofInt n) hx hb hd h1 (k := j) g1 rfl hn rfl (fun ls' h' => ?_)
  exact k ad H locs ls' stc e2 hr ⟨_, h', h2.put1 (c_val.mkI (c_bin_ok (op := (· + ·)) g3 rfl)), h3⟩
/-- two values give one: t1, t2 their tags, t the answer's -/
theorem c_w_two {n : Nat} {v w z : cV} {r : List cV} (row : ∀ {x y : Value} {ad : List Nat} {H : Heap} {locs : List Loc} {ls : Array Slot} {rest : List Value} {a b : Nat}, c_val ad sc v x → c_val ad sc w y → ∃ o : Value, c_val ad sc z o ∧ (ls.size = nL → (rest.map fun v => v.category).sum ≤ 8 ∨ n ≠ 3 → W p l e R s mid args below meth c H locs a b Q (F0 mid (pc + n) ls (o :: rest)) → W p l e R s mid args below meth c H locs a b Q (F0 mid pc ls (y :: x :: rest))))
    (hc : (r.map c_cat).sum ≤ 8 ∨ n ≠ 3) (k : c_OKs p l e R s mid args below meth c Q P D cl B0 sc nL ad0 n0 s0 (pc + n) L (z :: r) h) : c_OKs p l e R s mid args below meth c Q P D cl B0 sc nL ad0 n0 s0 pc L (w :: v :: r) h := by
  intro ad H locs ls stc e2 hr hf
  obtain ⟨lv, h1, h2, h3⟩ := hf
  obtain ⟨y, ys, rfl, g1, h4⟩ := h3.cons
  obtain ⟨x, zs, rfl, g2, h5⟩ := h4.cons
  obtain ⟨o, g3, g4⟩ := row g2 g1
  exact g4 h1.1 (by rw [c_cats h5]; exact hc) (k ad H locs ls _ e2 hr ⟨lv, h1, h2, g3, h5⟩)
/-- one value gives one -/
theorem c_w_one {v z : cV} {r : List cV} (row : ∀ {x : Value} {ad : List Nat} {H : Heap} {locs : List Loc} {ls : Array Slot} {rest : List Value} {a b : Nat}, c_val ad sc v x → ∃ o : Value, c_val ad sc z o ∧ (W p l e R s mid args below meth c H locs a b Q (F0 mid (pc + 1) ls (o :: rest)) → W p l e R s mid args below meth c H locs a b Q (F0 mid pc ls (x :: rest))))
    (k : c_OKs p l e R s mid args below meth c Q P D cl B0 sc nL ad0 n0 s0 (pc + 1) L (z :: r) h) : c_OKs p l e R s mid args below meth c Q P D cl B0 sc nL ad0 n0 s0 pc L (v :: r) h := by
  intro ad H locs ls stc e2 hr hf
  obtain ⟨lv, h1, h2, h3⟩ := hf
  obtain ⟨x, ys, rfl, g1, h4⟩ := h3.cons
  obtain ⟨o, g3, g4⟩ := row g1
  exact g4 (k ad H locs ls _ e2 hr ⟨lv, h1, h2, g3, h4⟩)
theorem c_w_dup {v : cV} {r : List cV} (hx : p.tables.exec = Jvm.exec) (hb : c.code = cb) (hd : decode cb pc = .ok (.dup, 1)) (hv : c_cat v = 1) (k : c_OKs p l e R s mid args below meth c Q P D cl B0 sc nL ad0 n0 s0 (pc + 1) L (v :: v :: r) h) : c_OKs p l e R s mid args below meth c Q P D cl B0 sc nL ad0 n0 s0 pc L (v :: r) h := by
  intro ad H locs ls stc e2 hr hfr
  obtain ⟨lv, h1, h2, h3⟩ := hfr
  obtain ⟨y, ys, rfl, g1, h4⟩ := h3.cons
  exact lv_dup hx hb hd (by rw [g1.cat]; exact hv) (k ad H locs ls _ e2 hr ⟨lv, h1, h2, g1, g1, h4⟩)
theorem c_w_pop {v : cV} {r : List cV} (hx : p.tables.exec = Jvm.exec) (hb : c.code = cb) (hd : decode cb pc = .ok (.pop, 1)) (hv : c_cat v = 1) (k : c_OKs p l e R s mid args below meth c Q P D cl B0 sc nL ad0 n0 s0 (pc + 1) L r h) : c_OKs p l e R s mid args below meth c Q P D cl B0 sc nL ad0 n0 s0 pc L (v :: r) h := by
  intro ad H locs ls stc e2 hr hfr
  obtain ⟨lv, h1, h2, h3⟩ := hfr
  obtain ⟨y, ys, rfl, g1, h4⟩ := h3.cons
  exact lv_pop hx hb hd (by rw [g1.cat]; exact hv) (k ad H locs ls _ e2 hr ⟨lv, h1, h2, h4⟩)
theorem c_w_dup2 {v w : cV} {r : List cV} (hx : p.tables.exec = Jvm.exec) (hb : c.code = cb) (hd : decode cb pc = .ok (.dup2, 1)) (hv : c_cat v = 1) (hw : c_cat w = 1) (k : c_OKs p l e R s mid args below meth c Q P D cl B0 sc nL ad0 n0 s0 (pc + 1) L (v :: w :: v :: w :: r) h) : c_OKs p l e R s mid args below meth c Q P D cl B0 sc nL ad0 n0 s0 pc L (v :: w :: r) h := by
  intro ad H locs ls stc e2 hr hfr
  obtain ⟨lv, h1, h2, h3⟩ := hfr
  obtain ⟨y, ys, rfl, g1, h4⟩ := h3.cons
  obtain ⟨z, zs, rfl, g2, h5⟩ := h4.cons
  exact lv_dup2_11 hx hb hd (by rw [g1.cat]; exact hv) (by rw [g2.cat]; exact hw) (k ad H locs ls _ e2 hr ⟨lv, h1, h2, g1, g2, g1, g2, h5⟩)
theorem c_w_goto {off : Int} (hx : p.tables.exec = Jvm.exec) (hb : c.code = cb) (hd : decode cb pc = .ok (.goto off, 3)) (ht : 0 ≤ (pc : Int) + off) (k : c_OKs p l e R s mid args below meth c Q P D cl B0 sc nL ad0 n0 s0 ((pc : Int) + off).toNat L st h) : c_OKs p l e R s mid args below meth c Q P D cl B0 sc nL ad0 n0 s0 pc L st h := by
  intro ad H locs ls stc e2 hr hfr
  exact lv_goto hx hb hd (by omega) (k ad H locs ls stc e2 hr hfr)
theorem c_w_icmp {cn : ClassFile.Cond} {off : Int} {v w : cV} {r : List cV} (hx : p.tables.exec = Jvm.exec) (hb : c.code = cb) (hd : decode cb pc = .ok (.if_icmp cn off, 3)) (ht : 0 ≤ (pc : Int) + off) (hv : v.1 = 0) (hw : w.1 = 0)
    (k : c_OKs p l e R s mid args below meth c Q P D cl B0 sc nL ad0 n0 s0 (if c_cmp cn v.2 w.2 = true then ((pc : Int) + off).toNat else pc + 3) L r h) : c_OKs p l e R s mid args below meth c Q P D cl B0 sc nL ad0 n0 s0 pc L (w :: v :: r) h := by
  intro ad H locs ls stc e2 hr hfr
  obtain ⟨lv, h1, h2, h3⟩ := hfr
  obtain ⟨y, ys, rfl, g1, h4⟩ := h3.cons
  obtain ⟨x, zs, rfl, g2, h5⟩ := h4.cons
  obtain ⟨b, rfl, gb⟩ := g1.int hw
  obtain ⟨a, rfl, ga⟩ := g2.int hv
  have ht' : (pc : Int) + off = (((pc : Int) + off).toNat : Int) := by omega
  have kt : c_cmp cn v.2 w.2 = true → W p l e R s mid args below meth c H locs (h.1.length - n0) (c_sz P h.1 - s0) Q (F0 mid ((pc : Int) + off).toNat ls zs) := fun q => by
    rw [if_pos q] at k
    exact k ad H locs ls zs e2 hr ⟨lv, h1, h2, h5⟩
  have kf : ¬ c_cmp cn v.2 w.2 = true → W p l e R s mid args below meth c H locs (h.1.length - n0) (c_sz P h.1 - s0) Q (F0 mid (pc + 3) ls zs) := fun q => by
    rw [if_neg q] at k
    exact k ad H locs ls zs e2 hr ⟨lv, h1, h2, h5⟩
  rw [← ga, ← gb] at kt kf
  cases cn with
  | eq => exact lv_icmp_eq hx hb hd ht' (fun q => kt (by simp [c_cmp, q])) (fun q => kf (fun z => q (Int32.toInt_inj.mp (by simpa [c_cmp] using z))))
  | ne => exact lv_icmp_ne hx hb hd ht' (fun q => kt (by simpa [c_cmp] using fun z => q (Int32.toInt_inj.mp z))) (fun q => kf (fun z => by simp [c_cmp, q] at z))
  | lt => exact lv_icmp_lt hx hb hd ht' (fun q => kt (by simpa [c_cmp] using Int32.lt_iff_toInt_lt.mp q)) (fun q => kf (fun z => q (Int32.lt_iff_toInt_lt.mpr (by simpa [c_cmp] using z))))
  | ge => exact lv_icmp_ge hx hb hd ht' (fun q => kt (by have := x_le32.mp q; simp only [c_cmp, Bool.not_eq_true', decide_eq_false_iff_not]; exact this)) (fun q => kf (fun z => q (x_le32.mpr (by simp only [c_cmp, Bool.not_eq_true', decide_eq_false_iff_not] at z; exact z))))
  | gt => exact lv_icmp_gt hx hb hd ht' (fun q => kt (by simpa [c_cmp] using Int32.lt_iff_toInt_lt.mp q)) (fun q => kf (fun z => q (Int32.lt_iff_toInt_lt.mpr (by simpa [c_cmp] using z))))
  | le => exact lv_icmp_le hx hb hd ht' (fun q => kt (by have := x_le32.mp q; simp only [c_cmp, Bool.not_eq_true', decide_eq_false_iff_not]; exact this)) (fun q => kf (fun z => q (x_le32.mpr (by simp only [c_cmp, Bool.not_eq_true', decide_eq_false_iff_not] at z; exact z))))
theorem c_w_ifc {cn : ClassFile.Cond} {off : Int} {v : cV} {r : List cV} (hx : p.tables.exec = Jvm.exec) (hb : c.code = cb) (hd : decode cb pc = .ok (.ifCond cn off, 3)) (ht : 0 ≤ (pc : Int) + off) (hv : v.1 = 0)
    (k : c_OKs p l e R s mid args below meth c Q P D cl B0 sc nL ad0 n0 s0 (if c_cmp cn v.2 0 = true then ((pc : Int) + off).toNat else pc + 3) L r h) : c_OKs p l e R s mid args below meth c Q P D cl B0 sc nL ad0 n0 s0 pc L (v :: r) h := by
  intro ad H locs ls stc e2 hr hfr
  obtain ⟨lv, h1, h2, h3⟩ := hfr
  obtain ⟨x, zs, rfl, g2, h5⟩ := h3.cons
  obtain ⟨a, rfl, ga⟩ := g2.int hv
  have ht' : (pc : Int) + off = (((pc : Int) + off).toNat : Int) := by omega
  have z0 : (0 : Int32).toInt = 0 := rfl
  have kt : c_cmp cn v.2 0 = true → W p l e R s mid args below meth c H locs (h.1.length - n0) (c_sz P h.1 - s0) Q (F0 mid ((pc : Int) + off).toNat ls zs) := fun q => by
    rw [if_pos q] at k
    exact k ad H locs ls zs e2 hr ⟨lv, h1, h2, h5⟩
  have kf : ¬ c_cmp cn v.2 0 = true → W p l e R s mid args below meth c H locs (h.1.length - n0) (c_sz P h.1 - s0) Q (F0 mid (pc + 3) ls zs) := fun q => by
    rw [if_neg q] at k
    exact k ad H locs ls zs e2 hr ⟨lv, h1, h2, h5⟩
  rw [← ga, ← z0] at kt kf
  cases cn with
  | eq => exact lv_if_eq hx hb hd ht' (fun q => kt (by simp [c_cmp, q])) (fun q => kf (fun z => q (Int32.toInt_inj.mp (of_decide_eq_true z))))
  | ne => exact lv_if_ne hx hb hd ht' (fun q => kt (by simp only [c_cmp, Bool.not_eq_true', decide_eq_false_iff_not]; exact fun z => q (Int32.toInt_inj.mp z))) (fun q => kf (fun z => by simp [c_cmp, q] at z))
  | lt => exact lv_if_lt hx hb hd ht' (fun q => kt (decide_eq_true (Int32.lt_iff_toInt_lt.mp q))) (fun q => kf (fun z => q (Int32.lt_iff_toInt_lt.mpr (of_decide_eq_true z))))
  | ge => exact lv_if_ge hx hb hd ht' (fun q => kt (by have := x_le32.mp q; simp only [c_cmp, Bool.not_eq_true', decide_eq_false_iff_not]; exact this)) (fun q => kf (fun z => q (x_le32.mpr (by simp only [c_cmp, Bool.not_eq_true', decide_eq_false_iff_not] at z; exact z))))
  | gt => exact lv_if_gt hx hb hd ht' (fun q => kt (decide_eq_true (Int32.lt_iff_toInt_lt.mp q))) (fun q => kf (fun z => q (Int32.lt_iff_toInt_lt.mpr (of_decide_eq_true z))))
  | le => exact lv_if_le hx hb hd ht' (fun q => kt (by have := x_le32.mp q; simp only [c_cmp, Bool.not_eq_true', decide_eq_false_iff_not]; exact this)) (fun q => kf (fun z => q (x_le32.mpr (by simp only [c_cmp, Bool.not_eq_true', decide_eq_false_iff_not] at z; exact z))))
theorem c_w_sw {v : cV} {r : List cV} {dflt lo hi : Int} {offs : Array Int} {len : Nat} (hx : p.tables.exec = Jvm.exec) (hb : c.code = cb) (hd : decode cb pc = .ok (.tableswitch dflt lo hi offs, len)) (hv : v.1 = 0) (hlen : (offs.toList.length : Int) = hi - lo + 1) (h0 : 0 ≤ (pc : Int) + c_swT dflt lo hi offs.toList v.2)
    (k : c_OKs p l e R s mid args below meth c Q P D cl B0 sc nL ad0 n0 s0 ((pc : Int) + c_swT dflt lo hi offs.toList v.2).toNat L r h) : c_OKs p l e R s mid args below meth c Q P D cl B0 sc nL ad0 n0 s0 pc L (v :: r) h := by
  intro ad H locs ls stc e2 hr hfr
  obtain ⟨lv, h1, h2, h3⟩ := hfr
  obtain ⟨x, zs, rfl, g2, h5⟩ := h3.cons
  obtain ⟨n, rfl, ga⟩ := g2.int hv
  have kk := k ad H locs ls zs e2 hr ⟨lv, h1, h2, h5⟩
  rw [← ga] at kk h0
  unfold c_swT at kk h0
  by_cases hc : n.toInt < lo ∨ hi < n.toInt
  · rw [if_pos hc] at kk h0
    exact lv_tableOut hx hb hd hc (by omega) kk
  · rw [if_neg hc] at kk h0
    have hk : (n.toInt - lo).toNat < offs.toList.length := by omega
    have he : offs.toList[(n.toInt - lo).toNat]? = some offs.toList[(n.toInt - lo).toNat] := List.getElem?_eq_getElem hk
    rw [List.getD_eq_getElem?_getD, he] at kk h0
    simp only [Option.getD_some] at kk h0
    exact lv_tableIn hx hb hd (fun q => hc (Or.inl q)) (fun q => hc (Or.inr q)) (by rw [← Array.getElem?_toList]; exact he) (by omega) kk
theorem c_w_lsw {v : cV} {r : List cV} {dflt : Int} {ps : Array (Int × Int)} {len : Nat} (hx : p.tables.exec = Jvm.exec) (hb : c.code = cb) (hd : decode cb pc = .ok (.lookupswitch dflt ps, len)) (hv : v.1 = 0) (hp : (ps.toList.zip (ps.toList.drop 1)).all (fun (a, next) => a.1 < next.1) = true) (h0 : 0 ≤ (pc : Int) + Op.lookupswitch.offset ps.toList dflt v.2)
    (k : c_OKs p l e R s mid args below meth c Q P D cl B0 sc nL ad0 n0 s0 ((pc : Int) + Op.lookupswitch.offset ps.toList dflt v.2).toNat L r h) : c_OKs p l e R s mid args below meth c Q P D cl B0 sc nL ad0 n0 s0 pc L (v :: r) h := by
  intro ad H locs ls stc e2 hr hfr
  obtain ⟨lv, h1, h2, h3⟩ := hfr
  obtain ⟨x, zs, rfl, g2, h5⟩ := h3.cons
  obtain ⟨n, rfl, ga⟩ := g2.int hv
  have kk := k ad H locs ls zs e2 hr ⟨lv, h1, h2, h5⟩
  rw [← ga] at kk h0
  exact lv_lookup hx hb hd hp rfl (by omega) kk
theorem c_w_get {idx : Nat} {k : Int} {r : List cV} {ci : Nat} {f : Int} {kd : Nat} (hx : p.tables.exec = Jvm.exec) (hb : c.code = cb) (hown : s.vm.findClass own = some mid.cls) (hts : ∀ w ∈ x_tbl, w.before args s = true) (hC : ∀ (ci : Nat) (q : vw_C), cl[ci]? = some q → x_okc P ci q) (hp : x_okp cl P own idx (1, ci, f))
    (hd : decode cb pc = .ok (.getfield idx, 3)) (ho : h.1[k.toNat]? = some (.inr ci)) (hkd : (x_cls P ci)[f.toNat]? = some kd) (kk : c_OKs p l e R s mid args below meth c Q P D cl B0 sc nL ad0 n0 s0 (pc + 3) L (c_fld kd (h.2 k.toNat f.toNat) :: r) h) : c_OKs p l e R s mid args below meth c Q P D cl B0 sc nL ad0 n0 s0 pc L ((3, k) :: r) h := by
  intro ad H locs ls stc e2 hr hfr
  obtain ⟨lv, h1, h2, h3⟩ := hfr
  obtain ⟨y, ys, rfl, g1, h4⟩ := h3.cons
  obtain ⟨-, a, rfl, ga⟩ := g1
  have hr0 := hr
  obtain ⟨ws, tys, aK, aP, aD, aS, aH⟩ := hr
  obtain ⟨ev, w1, w2⟩ := aH.at ho ga
  obtain ⟨xs, rfl, w3, w4⟩ := w2
  obtain ⟨x, w5, w6⟩ := w4 f.toNat kd hkd
  obtain ⟨⟨C, T, N⟩, p1, p2, p3⟩ := hp
  obtain ⟨c1, -⟩ := hC ci (C, T, N) p1
  exact va_get hx hb hts c1 hown aK aP k.toNat w1 p1 f.toNat p2 (hts _ p3) (fun _ q => q) w5 hd (kk ad H locs ls _ e2 hr0 ⟨lv, h1, h2, w6, h4⟩)
theorem c_up_ne {M : cM} {k f : Nat} {v : Int} : ∀ j, j ≠ k → c_up M k f v j = M j := by
  intro j hj
  funext b
  simp [c_up, hj]
theorem c_w_put {idx : Nat} {k : Int} {r : List cV} {ci : Nat} {f : Int} {v : cV} {kd : Nat} (hx : p.tables.exec = Jvm.exec) (hb : c.code = cb) (hown : s.vm.findClass own = some mid.cls) (hts : ∀ w ∈ x_tbl, w.before args s = true) (hC : ∀ (ci : Nat) (q : vw_C), cl[ci]? = some q → x_okc P ci q) (hp : x_okp cl P own idx (1, ci, f))
    (hd : decode cb pc = .ok (.putfield idx, 3)) (ho : h.1[k.toNat]? = some (.inr ci)) (hkd : (x_cls P ci)[f.toNat]? = some kd) (hfit : c_fit kd v = true) (hfin : kd < 10 ∨ meth.name = "<init>" ∧ ∀ C : vw_C, cl[ci]? = some C → C.1 = own)
    (kk : c_OKs p l e R s mid args below meth c Q P D cl B0 sc nL ad0 n0 s0 (pc + 3) L r (h.1, c_up h.2 k.toNat f.toNat (c_enc v))) : c_OKs p l e R s mid args below meth c Q P D cl B0 sc nL ad0 n0 s0 pc L (v :: (3, k) :: r) h := by
  intro ad H locs ls stc e2 hr hfr
  obtain ⟨lv, h1, h2, h3⟩ := hfr
  obtain ⟨x, xs0, rfl, gx, h4⟩ := h3.cons
  obtain ⟨y, ys, rfl, g1, h5⟩ := h4.cons
  obtain ⟨-, a, rfl, ga⟩ := g1
  obtain ⟨ws, tys, aK, aP, aD, aS, aH⟩ := hr
  obtain ⟨ev, w1, w2⟩ := aH.at ho ga
  obtain ⟨xs, rfl, w3, w4⟩ := w2
  obtain ⟨⟨C, T, N⟩, p1, p2, p3⟩ := hp
  obtain ⟨c1, c2, c3, ty, c4, c5⟩ := hC ci (C, T, N) p1
  obtain ⟨c6, c7, c8⟩ := c5 f.toNat kd hkd
  obtain ⟨f1, f2, f3⟩ := c_fit_ok gx hfit c6
  have hl' : f.toNat < xs.length := by rw [w3]; exact (List.getElem?_eq_some_iff.mp hkd).1
  have hcell : c_cell P ad sc tys (.inr ci) (c_up h.2 k.toNat f.toNat (c_enc v) k.toNat) (.inr (ci, xs.set f.toNat x)) := by
    refine ⟨_, rfl, by rw [List.length_set]; exact w3, fun f2 kd2 hk2 => ?_⟩
    by_cases hf : f.toNat = f2
    · subst hf
      rw [hkd] at hk2
      cases hk2
      refine ⟨x, List.getElem?_set_self hl', ?_⟩
      have : c_up h.2 k.toNat f.toNat (c_enc v) k.toNat f.toNat = c_enc v := by simp [c_up]
      rw [this]
      exact f3
    · obtain ⟨x2, q1, q2⟩ := w4 f2 kd2 hk2
      refine ⟨x2, by rw [List.getElem?_set_ne hf]; exact q1, ?_⟩
      have : c_up h.2 k.toNat f.toNat (c_enc v) k.toNat f2 = h.2 k.toNat f2 := by
        have : ¬ f2 = f.toNat := fun z => hf z.symm
        simp [c_up, this]
      rw [this]
      exact q2
  have fin : ∀ (H1 : Heap) (locs1 : List Loc), va_P D cl (ws.set k.toNat (a, .inr (ci, xs.set f.toNat x))) H1 → va_D (fun q : Nat => B0 ≤ q) (ws.set k.toNat (a, .inr (ci, xs.set f.toNat x))) → va_S (fun q : Nat => B0 ≤ q) s.heap H1 locs1 → W p l e R s mid args below meth c H1 locs1 (h.1.length - n0) (c_sz P h.1 - s0) Q (F0 mid (pc + 3) ls ys) :=
    fun H1 locs1 hP hD hS => kk ad H1 locs1 ls _ e2 ⟨_, tys, aK, hP, hD, hS, c_heap.set (T := h.1) (M := h.2) aH w1 ho c_up_ne hcell⟩ ⟨lv, h1, h2, h5⟩
  by_cases hk : kd < 10
  · exact va_put hx hb hts c1 ty c4 c3 hown aK aP aD aS k.toNat w1 p1 f.toNat p2 (hts _ p3) (fun _ q => q) (by rw [c7]; simp; omega) (c4 _ p2) f1 f2 hl' hd fin
  · rcases hfin with hfin | ⟨hin, hown2⟩
    · exact absurd hfin hk
    · exact va_putF hx hb hts c1 ty c4 c3 hown aK aP aD aS k.toNat w1 p1 f.toNat p2 (hts _ p3) (fun _ q => q) (by rw [c7]; simp; omega) hin (c8.trans (hown2 _ p1)) (c4 _ p2) f1 f2 hl' hd fin
theorem c_w_ald {i : cV} {k : Int} {r : List cV} {a : Nat × Nat} {t ty : Nat} {ins : Instr} (hx : p.tables.exec = Jvm.exec) (hb : c.code = cb) (hd : decode cb pc = .ok (ins, 1)) (hi : i.1 = 0) (hty : a.1 = ty) (ho : h.1[k.toNat]? = some (.inl a)) (h0 : 0 ≤ i.2) (hn : i.2 < (a.2 : Int))
    (hcase : (ins = .iaload ∧ ty = 0 ∧ t = 0) ∨ (ins = .laload ∧ ty = 1 ∧ t = 1) ∨ (ins = .baload ∧ ty = 2 ∧ t = 0)) (kk : c_OKs p l e R s mid args below meth c Q P D cl B0 sc nL ad0 n0 s0 (pc + 1) L ((t, h.2 k.toNat i.2.toNat) :: r) h) : c_OKs p l e R s mid args below meth c Q P D cl B0 sc nL ad0 n0 s0 pc L (i :: (3, k) :: r) h := by
  intro ad H locs ls stc e2 hr hfr
  obtain ⟨lv, h1, h2, h3⟩ := hfr
  obtain ⟨x, xs0, rfl, gx, h4⟩ := h3.cons
  obtain ⟨y, ys, rfl, g1, h5⟩ := h4.cons
  obtain ⟨-, ad1, rfl, ga⟩ := g1
  obtain ⟨n, rfl, gn⟩ := gx.int hi
  have hr0 := hr
  obtain ⟨ws, tys, aK, aP, aD, aS, aH⟩ := hr
  obtain ⟨ev, w1, w2⟩ := aH.at ho ga
  obtain ⟨ta, nn⟩ := a
  have hty : ta = ty := hty
  subst hty
  obtain ⟨v1, v2, v3⟩ := x_clamp (i := n) (n := nn) (by omega) (by rw [gn]; exact hn)
  rw [gn] at v2 v3
  rcases hcase with ⟨rfl, rfl, rfl⟩ | ⟨rfl, rfl, rfl⟩ | ⟨rfl, rfl, rfl⟩
  · obtain ⟨cA, f, rfl, ⟨t0, ht⟩, w3⟩ := w2
    exact va_iald hx hb aK aP k.toNat t0 w1 ht v1 hd (kk ad H locs ls _ e2 hr0 ⟨lv, h1, h2, c_val.mkI (by rw [v2]; exact w3 _ v3), h5⟩)
  · obtain ⟨cA, f, rfl, ⟨t0, ht⟩, w3⟩ := w2
    exact va_lald hx hb aK aP k.toNat t0 w1 ht v1 hd (kk ad H locs ls _ e2 hr0 ⟨lv, h1, h2, c_val.mkL (by rw [v2]; exact w3 _ v3), h5⟩)
  · obtain ⟨cA, f, rfl, ⟨t0, ht⟩, w3⟩ := w2
    exact va_zald hx hb aK aP k.toNat t0 w1 ht v1 hd (kk ad H locs ls _ e2 hr0 ⟨lv, h1, h2, c_val.mkI (by rw [v2]; exact w3 _ v3), h5⟩)
theorem c_w_ast {v i : cV} {k : Int} {r : List cV} {a : Nat × Nat} {ty : Nat} {ins : Instr} (hx : p.tables.exec = Jvm.exec) (hb : c.code = cb) (hd : decode cb pc = .ok (ins, 1)) (hi : i.1 = 0) (hty : a.1 = ty) (ho : h.1[k.toNat]? = some (.inl a)) (h0 : 0 ≤ i.2) (hn : i.2 < (a.2 : Int))
    (hcase : (ins = .iastore ∧ ty = 0 ∧ v.1 = 0) ∨ (ins = .lastore ∧ ty = 1 ∧ v.1 = 1) ∨ (ins = .bastore ∧ ty = 2 ∧ v.1 = 0 ∧ c_fit 3 v = true)) (kk : c_OKs p l e R s mid args below meth c Q P D cl B0 sc nL ad0 n0 s0 (pc + 1) L r (h.1, c_up h.2 k.toNat i.2.toNat v.2)) : c_OKs p l e R s mid args below meth c Q P D cl B0 sc nL ad0 n0 s0 pc L (v :: i :: (3, k) :: r) h := by
  intro ad H locs ls stc e2 hr hfr
  obtain ⟨lv, h1, h2, h3⟩ := hfr
  obtain ⟨z, zs, rfl, gz, h4⟩ := h3.cons
  obtain ⟨x, xs0, rfl, gx, h5⟩ := h4.cons
  obtain ⟨y, ys, rfl, g1, h6⟩ := h5.cons
  obtain ⟨-, ad1, rfl, ga⟩ := g1
  obtain ⟨n, rfl, gn⟩ := gx.int hi
  obtain ⟨ws, tys, aK, aP, aD, aS, aH⟩ := hr
  obtain ⟨ev, w1, w2⟩ := aH.at ho ga
  obtain ⟨ta, nn⟩ := a
  have hty : ta = ty := hty
  subst hty
  obtain ⟨v1, v2, v3⟩ := x_clamp (i := n) (n := nn) (by omega) (by rw [gn]; exact hn)
  rw [gn] at v2 v3
  have upd1 : ∀ (f : Nat → Int32) (m : Int32), m.toInt = v.2 → (∀ j, j < nn → (f j).toInt = h.2 k.toNat j) → ∀ j, j < nn → (upd f n.toNatClampNeg m j).toInt = c_up h.2 k.toNat i.2.toNat v.2 k.toNat j := by
    intro f m gm w3 j hj
    rw [v2]
    by_cases hjk : j = i.2.toNat
    · simp [upd, c_up, hjk, gm]
    · simp [upd, c_up, hjk, w3 j hj]
  rcases hcase with ⟨rfl, rfl, hv⟩ | ⟨rfl, rfl, hv⟩ | ⟨rfl, rfl, hv, hfz⟩
  · obtain ⟨cA, f, rfl, ⟨t0, ht⟩, w3⟩ := w2
    obtain ⟨m, rfl, gm⟩ := gz.int hv
    exact va_iast hx hb aK aP aD aS k.toNat t0 w1 ht v1 hd (fun H1 locs1 hP hD hS => kk ad H1 locs1 ls _ e2 ⟨_, tys, aK, hP, hD, hS, c_heap.set (T := h.1) (M := h.2) aH w1 ho c_up_ne ⟨cA, _, rfl, ⟨t0, ht⟩, upd1 f m gm w3⟩⟩ ⟨lv, h1, h2, h6⟩)
  · obtain ⟨cA, f, rfl, ⟨t0, ht⟩, w3⟩ := w2
    obtain ⟨m, rfl, gm⟩ := gz.long hv
    refine va_last hx hb aK aP aD aS k.toNat t0 w1 ht v1 hd (fun H1 locs1 hP hD hS => kk ad H1 locs1 ls _ e2 ⟨_, tys, aK, hP, hD, hS, c_heap.set (T := h.1) (M := h.2) aH w1 ho c_up_ne ⟨cA, _, rfl, ⟨t0, ht⟩, fun j hj => ?_⟩⟩ ⟨lv, h1, h2, h6⟩)
    rw [v2]
    by_cases hjk : j = i.2.toNat
    · simp [vp_updL, c_up, hjk, gm]
    · have := w3 j hj
      simp [vp_updL, c_up, hjk, this]
  · obtain ⟨cA, f, rfl, ⟨t0, ht⟩, w3⟩ := w2
    have hfit := c_fit_ok (kd := 3) gz hfz (show x_tyk 3 .boolean from rfl)
    obtain ⟨m, rfl, gm⟩ := gz.int hv
    have hnar : vp_nar .boolean m = m := by
      unfold vp_nar
      rw [hfit.1]
    refine va_zast hx hb aK aP aD aS k.toNat t0 w1 ht v1 hd (fun H1 locs1 hP hD hS => kk ad H1 locs1 ls _ e2 ⟨_, tys, aK, hP, hD, hS, c_heap.set (T := h.1) (M := h.2) aH w1 ho c_up_ne ⟨cA, _, rfl, ⟨t0, ht⟩, ?_⟩⟩ ⟨lv, h1, h2, h6⟩)
    rw [hnar]
    exact upd1 f m gm w3
theorem c_w_alen {k : Int} {r : List cV} {a : Nat × Nat} (hx : p.tables.exec = Jvm.exec) (hb : c.code = cb) (hd : decode cb pc = .ok (.arraylength, 1)) (ho : h.1[k.toNat]? = some (.inl a)) (ha : a.1 < 3) (hn : a.2 < 2147483648)
    (kk : c_OKs p l e R s mid args below meth c Q P D cl B0 sc nL ad0 n0 s0 (pc + 1) L ((0, (a.2 : Int)) :: r) h) : c_OKs p l e R s mid args below meth c Q P D cl B0 sc nL ad0 n0 s0 pc L ((3, k) :: r) h := by
  intro ad H locs ls stc e2 hr hfr
  obtain ⟨lv, h1, h2, h3⟩ := hfr
  obtain ⟨y, ys, rfl, g1, h4⟩ := h3.cons
  obtain ⟨-, ad1, rfl, ga⟩ := g1
  have hr0 := hr
  obtain ⟨ws, tys, aK, aP, aD, aS, aH⟩ := hr
  obtain ⟨ev, w1, w2⟩ := aH.at ho ga
  obtain ⟨t, nn⟩ := a
  have hn : nn < 2147483648 := hn
  have fin : W p l e R s mid args below meth c H locs (h.1.length - n0) (c_sz P h.1 - s0) Q (F0 mid (pc + 1) ls (.int (Int32.ofNat nn) :: ys)) := kk ad H locs ls _ e2 hr0 ⟨lv, h1, h2, c_val.mkI (by show (nI nn).toInt = _; rw [nI_toInt (by omega)]), h4⟩
  match t, ha, w2 with
  | 0, _, w2 =>
    obtain ⟨cA, f, rfl, ⟨t0, ht⟩, w3⟩ := w2
    exact va_alen hx hb aK aP k.toNat t0 w1 ht rfl hd fin
  | 1, _, w2 =>
    obtain ⟨cA, f, rfl, ⟨t0, ht⟩, w3⟩ := w2
    exact va_alen hx hb aK aP k.toNat t0 w1 ht rfl hd fin
  | 2, _, w2 =>
    obtain ⟨cA, f, rfl, ⟨t0, ht⟩, w3⟩ := w2
    exact va_alen hx hb aK aP k.toNat t0 w1 ht rfl hd fin
  | t + 3, ha, _ => exact absurd (show t + 3 < 3 from ha) (by omega)
theorem c_w_newa {n : Int} {r : List cV} {ty : Nat} {at_ : ArrayType} (hx : p.tables.exec = Jvm.exec) (hb : c.code = cb) (hts : ∀ w ∈ x_tbl, w.before args s = true) (hI : Cond.arrayClass .int ∈ x_tbl) (hJ : Cond.arrayClass .long ∈ x_tbl) (hZ : Cond.arrayClass .boolean ∈ x_tbl) (hB : B0 ≤ s.heap.size)
    (hd : decode cb pc = .ok (.newarray at_, 2)) (hcase : at_ = .int ∧ ty = 0 ∨ at_ = .long ∧ ty = 1 ∨ at_ = .boolean ∧ ty = 2) (hn0 : 0 ≤ n) (hn1 : n ≤ 60000000) (b1 : n0 ≤ h.1.length) (b2 : s0 ≤ c_sz P h.1) (hc : h.1.length - n0 + 1 ≤ R.cells) (hs : c_sz P h.1 - s0 + n.toNat ≤ R.slots)
    (kk : c_OKs p l e R s mid args below meth c Q P D cl B0 sc nL ad0 n0 s0 (pc + 2) L ((3, (h.1.length : Int)) :: r) (h.1 ++ [.inl (ty, n.toNat)], c_new h.2 h.1.length (fun _ => 0))) : c_OKs p l e R s mid args below meth c Q P D cl B0 sc nL ad0 n0 s0 pc L ((0, n) :: r) h := by
  intro ad H locs ls stc e2 hr hfr
  obtain ⟨lv, h1, h2, h3⟩ := hfr
  obtain ⟨y, ys, rfl, g1, h4⟩ := h3.cons
  obtain ⟨m, rfl, gm⟩ := g1
  have gm : m.toInt = n := gm
  have m1 : ¬ m < 0 := fun q => by
    have := Int32.lt_iff_toInt_lt.mp q
    rw [gm] at this
    have z : (0 : Int32).toInt = 0 := rfl
    omega
  have m2 : m.toNatClampNeg = n.toNat := by show m.toInt.toNat = n.toNat; rw [gm]
  obtain ⟨ws, tys, aK, aP, aD, aS, aH⟩ := hr
  have hA : ∀ q, s.heap.size ≤ q → (fun q : Nat => B0 ≤ q) q := fun q z => Nat.le_trans hB z
  have go : ∀ (a0 : vp_A) (ty0 : FieldType), newarray.typeOf at_ = ty0 → Cond.arrayClass ty0 ∈ x_tbl → (∀ cA : ClassId, vp_cell cA a0 = arrV cA n.toNat (fun _ => defaultValue ty0)) → n.toNat * componentBytes ty0 ≤ 536870912 →
      (∀ (cA : ClassId) (q : Nat) (tys' : List (ClassId × FieldType)), tys'[tys.length]? = some (cA, ty0) → c_cell P (ad ++ [q]) sc tys' (.inl (ty, n.toNat)) (fun _ => 0) (.inl (cA, a0))) → W p l e R s mid args below meth c H locs (h.1.length - n0) (c_sz P h.1 - s0) Q (F0 mid pc ls (.int m :: ys)) := by
    intro a0 ty0 hty hac hcell hby hx9
    refine va_newa hx hb (by rw [hty]; exact hts _ hac) hty aK aP aD aS hA hcell m1 m2 hby hc hs hd (fun q cA H1 hK hP hD hS => ?_)
    have hK' : x_ext tys (tys ++ [(cA, ty0)]) := x_ext.app _ _
    refine W.cells_eq (a' := (h.1 ++ [(Sum.inl (ty, n.toNat) : cK)]).length - n0) (b' := c_sz P (h.1 ++ [(Sum.inl (ty, n.toNat) : cK)]) - s0) (by rw [List.length_append]; show _ = h.1.length + 1 - n0; omega) (by rw [c_sz_app]; show _ = c_sz P h.1 + n.toNat - s0; omega) ?_
    refine kk (ad ++ [q]) H1 locs ls _ (e2.tr (x_ext.app _ _)) ⟨_, _, hK, hP, hD, hS, c_heap.push (T := h.1) (M := h.2) (aH.mono hK') (hx9 cA q _ (by rw [List.getElem?_append_right (Nat.le_refl _)]; simp))⟩ ⟨lv, h1, h2.mono (x_ext.app _ _), ⟨by show (0 : Int) ≤ (h.1.length : Int); omega, q, rfl, ?_⟩, h4.mono (x_ext.app _ _)⟩
    show (ad ++ [q])[((h.1.length : Int)).toNat]? = some q
    rw [Int.toNat_natCast, ← aH.adlen, List.getElem?_append_right (Nat.le_refl _)]
    simp
  rcases hcase with ⟨rfl, rfl⟩ | ⟨rfl, rfl⟩ | ⟨rfl, rfl⟩
  · exact go (n.toNat, .inl (fun _ => 0)) .int rfl hI (fun _ => rfl) (by show n.toNat * 4 ≤ _; omega) (fun cA q tys' ht => ⟨cA, _, rfl, ⟨_, ht⟩, fun _ _ => rfl⟩)
  · exact go (n.toNat, .inr (.inl (fun _ => 0))) .long rfl hJ (fun _ => rfl) (by show n.toNat * 8 ≤ _; omega) (fun cA q tys' ht => ⟨cA, _, rfl, ⟨_, ht⟩, fun _ _ => rfl⟩)
  · exact go (n.toNat, .inl (fun _ => 0)) .boolean rfl hZ (fun _ => rfl) (by show n.toNat * 1 ≤ _; omega) (fun cA q tys' ht => ⟨cA, _, rfl, ⟨_, ht⟩, fun _ _ => rfl⟩)
theorem c_dfl_ok {kd : Nat} {ty : FieldType} (h : x_tyk (kd % 10) ty) {ad : List Nat} {sc : Nat} : c_val ad sc (c_fld kd (c_dfl kd)) (defaultValue ty) := by
  unfold c_fld c_dfl
  generalize kd % 10 = k at h
  match k, h with
  | 0, h => cases (show ty = .int from h); exact ⟨0, rfl, rfl⟩
  | 1, h => cases (show ty = .long from h); exact ⟨0, rfl, rfl⟩
  | 2, h =>
    rcases (show (∃ n, ty = .object n) ∨ ∃ t, ty = .array t from h) with ⟨n, rfl⟩ | ⟨n, rfl⟩ <;> exact rfl
  | 3, h => cases (show ty = .boolean from h); exact ⟨0, rfl, rfl⟩
  | _ + 4, h => exact h.elim
theorem c_w_new {idx ci : Nat} {z : Int} (hx : p.tables.exec = Jvm.exec) (hb : c.code = cb) (hown : s.vm.findClass own = some mid.cls) (hts : ∀ w ∈ x_tbl, w.before args s = true) (hC : ∀ (ci : Nat) (q : vw_C), cl[ci]? = some q → x_okc P ci q) (hp : x_okp cl P own idx (9, ci, z)) (hB : B0 ≤ s.heap.size)
    (hd : decode cb pc = .ok (.new idx, 3)) (b1 : n0 ≤ h.1.length) (b2 : s0 ≤ c_sz P h.1) (hc : h.1.length - n0 + 1 ≤ R.cells) (hs : c_sz P h.1 - s0 + (x_cls P ci).length ≤ R.slots)
    (kk : c_OKs p l e R s mid args below meth c Q P D cl B0 sc nL ad0 n0 s0 (pc + 3) L ((3, (h.1.length : Int)) :: st) (h.1 ++ [.inr ci], c_new h.2 h.1.length (fun f => c_dfl ((x_cls P ci).getD f 0)))) : c_OKs p l e R s mid args below meth c Q P D cl B0 sc nL ad0 n0 s0 pc L st h := by
  intro ad H locs ls stc e2 hr hfr
  obtain ⟨lv, h1, h2, h3⟩ := hfr
  obtain ⟨ws, tys, aK, aP, aD, aS, aH⟩ := hr
  obtain ⟨⟨C, T, N⟩, p1, p2, p3, p4⟩ := hp
  obtain ⟨c1, c2, c3, ty, c4, c5⟩ := hC ci (C, T, N) p1
  have c2 : N = (x_cls P ci).length := c2
  have hA : ∀ q, s.heap.size ≤ q → (fun q : Nat => B0 ≤ q) q := fun q z => Nat.le_trans hB z
  subst c2
  refine va_new (fs := (List.range' 0 (x_cls P ci).length).map (fun j => defaultValue (ty j))) hx hb hts c1 ty c4 hown (hts _ p2) (hts _ p3) (hts _ p4) aK aP aD aS hA p1 (fun j hj => ?_) hc hs hd (fun q H1 hP hD hS => ?_)
  · unfold vp_V
    rw [List.getD_eq_getElem?_getD, List.getElem?_map, List.getElem?_range' (by omega)]
    simp
  · refine W.cells_eq (a' := (h.1 ++ [(Sum.inr ci : cK)]).length - n0) (b' := c_sz P (h.1 ++ [(Sum.inr ci : cK)]) - s0) (by rw [List.length_append]; show _ = h.1.length + 1 - n0; omega) (by rw [c_sz_app]; show _ = c_sz P h.1 + (x_cls P ci).length - s0; omega) ?_
    refine kk (ad ++ [q]) H1 locs ls _ (e2.tr (x_ext.app _ _)) ⟨_, tys, aK, hP, hD, hS, c_heap.push (T := h.1) (M := h.2) aH ⟨_, rfl, by simp, fun f kd hk => ?_⟩⟩ ⟨lv, h1, h2.mono (x_ext.app _ _), ⟨by show (0 : Int) ≤ (h.1.length : Int); omega, q, rfl, ?_⟩, h3.mono (x_ext.app _ _)⟩
    · have hf : f < (x_cls P ci).length := (List.getElem?_eq_some_iff.mp hk).1
      refine ⟨defaultValue (ty f), ?_, ?_⟩
      · rw [List.getElem?_map, List.getElem?_range' (by omega)]
        simp
      · show c_val (ad ++ [q]) sc (c_fld kd (c_dfl ((x_cls P ci).getD f 0))) (defaultValue (ty f))
        rw [List.getD_eq_getElem?_getD, hk]
        exact c_dfl_ok (c5 f kd hk).1
    · show (ad ++ [q])[((h.1.length : Int)).toNat]? = some q
      rw [Int.toNat_natCast, ← aH.adlen, List.getElem?_append_right (Nat.le_refl _)]
      simp
end CW
