/-! the script, copies, calls and ends -/
def c_Scr (B0 sc : Nat) (xs : Nat → Int) (Ln : Nat) (s : State) : Prop := ∃ xi : Nat → Int32, va_X sc Ln xi s s.heap ∧ sc < s.heap.size ∧ ¬ B0 ≤ sc ∧ Ln < 2147483648 ∧ ∀ j : Nat, j < Ln → (xi j).toInt = xs j
section CD
variable {p : Program} {l : Launch} {e : Env} {R : Room} {s : State} {mid : MethodId} {args : Array Value} {below : List Frame} {meth : Method} {c : Code} {Q : State → Prop} {P : xP} {D : va_G} {cl : List vw_C} {B0 sc nL : Nat} {ad0 : List Nat} {n0 s0 : Nat}
  {pc : Nat} {L : List (Nat × cV)} {st : List cV} {h : cH} {cb : ByteArray} {own : String} {xs : Nat → Int} {Ln : Nat}
theorem c_w_slen {k : Int} {r : List cV} (hx : p.tables.exec = Jvm.exec) (hb : c.code = cb) (hd : decode cb pc = .ok (.arraylength, 1)) (hs : c_Scr B0 sc xs Ln s) (kk : c_OKs p l e R s mid args below meth c Q P D cl B0 sc nL ad0 n0 s0 (pc + 1) L ((0, (Ln : Int)) :: r) h) : c_OKs p l e R s mid args below meth c Q P D cl B0 sc nL ad0 n0 s0 pc L ((4, k) :: r) h := by
  intro ad H locs ls stc e2 hr hfr
  obtain ⟨lv, h1, h2, h3⟩ := hfr
  obtain ⟨y, ys, rfl, g1, h4⟩ := h3.cons
  have g1 : y = .ref sc := g1
  subst g1
  have hr0 := hr
  obtain ⟨ws, tys, aK, aP, aD, aS, aH⟩ := hr
  obtain ⟨xi, s1, s2, s3, s4, s5⟩ := hs
  exact va_slen hx hb s1 s2 s3 aS hd (kk ad H locs ls _ e2 hr0 ⟨lv, h1, h2, c_val.mkI (by show (nI Ln).toInt = _; rw [nI_toInt (by omega)]), h4⟩)
theorem c_w_sld {i : cV} {k : Int} {r : List cV} (hx : p.tables.exec = Jvm.exec) (hb : c.code = cb) (hd : decode cb pc = .ok (.iaload, 1)) (hs : c_Scr B0 sc xs Ln s) (hi : i.1 = 0) (h0 : 0 ≤ i.2) (hl : i.2 < (Ln : Int))
    (kk : c_OKs p l e R s mid args below meth c Q P D cl B0 sc nL ad0 n0 s0 (pc + 1) L ((0, xs i.2.toNat) :: r) h) : c_OKs p l e R s mid args below meth c Q P D cl B0 sc nL ad0 n0 s0 pc L (i :: (4, k) :: r) h := by
  intro ad H locs ls stc e2 hr hfr
  obtain ⟨lv, h1, h2, h3⟩ := hfr
  obtain ⟨x, xs0, rfl, gx, h4⟩ := h3.cons
  obtain ⟨y, ys, rfl, g1, h5⟩ := h4.cons
  have g1 : y = .ref sc := g1
  subst g1
  obtain ⟨n, rfl, gn⟩ := gx.int hi
  have hr0 := hr
  obtain ⟨ws, tys, aK, aP, aD, aS, aH⟩ := hr
  obtain ⟨xi, s1, s2, s3, s4, s5⟩ := hs
  obtain ⟨c1, c2, c3⟩ := x_clamp (i := n) (n := Ln) (by omega) (by omega)
  rw [gn] at c2 c3
  exact va_sld hx hb s1 s2 s3 aS c1 hd (kk ad H locs ls _ e2 hr0 ⟨lv, h1, h2, c_val.mkI (by rw [c2]; exact s5 _ c3), h5⟩)
theorem c_w_oinit {idx : Nat} {k : Int} {r : List cV} {z : Nat × Int} (hx : p.tables.exec = Jvm.exec) (hb : c.code = cb) (hml : c.maxLocals = nL) (hown : s.vm.findClass own = some mid.cls) (hts : ∀ w ∈ x_tbl, w.before args s = true) (hp : x_okp cl P own idx (5, z)) (hd : decode cb pc = .ok (.invokespecial idx, 3))
    (hR1 : 1 ≤ R.frames) (hR2 : 20 ≤ R.locals) (hc : (r.map c_cat).sum ≤ 8) (kk : c_OKs p l e R s mid args below meth c Q P D cl B0 sc nL ad0 n0 s0 (pc + 3) L r h) : c_OKs p l e R s mid args below meth c Q P D cl B0 sc nL ad0 n0 s0 pc L ((3, k) :: r) h := by
  intro ad H locs ls stc e2 hr hfr
  obtain ⟨lv, h1, h2, h3⟩ := hfr
  obtain ⟨y, ys, rfl, g1, h4⟩ := h3.cons
  obtain ⟨-, a, rfl, ga⟩ := g1
  obtain ⟨p1, p2, p3⟩ := hp
  have hc' := c_cats h4
  refine W.objInit hx hb hown (hts _ p1) (hts _ p2) (hts _ p3) rfl (by rw [hml]; exact h1.1) rfl hd hR1 ?_ ?_
  · show 2 * 0 + (ys.map fun v => v.category).sum + 12 ≤ R.locals
    omega
  · exact kk ad H locs ls ys e2 hr ⟨lv, h1, h2, h4⟩
theorem c_w_cpy {idx : Nat} {n dp sp : Int} {kd ks : Int} {r : List cV} {na nb : Nat} {z : Nat × Int} (hx : p.tables.exec = Jvm.exec) (hb : c.code = cb) (hml : c.maxLocals = nL) (hown : s.vm.findClass own = some mid.cls) (hts : ∀ w ∈ x_tbl, w.before args s = true) (hp : x_okp cl P own idx (10, z)) (hd : decode cb pc = .ok (.invokestatic idx, 3))
    (hR1 : 1 ≤ R.frames) (hR2 : 40 ≤ R.locals) (hs : h.1[ks.toNat]? = some (.inl (0, na))) (hd1 : h.1[kd.toNat]? = some (.inl (0, nb))) (q1 : 0 ≤ n) (q2 : 0 ≤ dp) (q3 : 0 ≤ sp) (q4 : sp + n ≤ na) (q5 : dp + n ≤ nb) (hc : (r.map c_cat).sum ≤ 8)
    (kk : c_OKs p l e R s mid args below meth c Q P D cl B0 sc nL ad0 n0 s0 (pc + 3) L r (h.1, fun a b => if a = kd.toNat ∧ dp.toNat ≤ b ∧ b < dp.toNat + n.toNat then h.2 ks.toNat (sp.toNat + (b - dp.toNat)) else h.2 a b)) : c_OKs p l e R s mid args below meth c Q P D cl B0 sc nL ad0 n0 s0 pc L ((0, n) :: (0, dp) :: (3, kd) :: (0, sp) :: (3, ks) :: r) h := by
  intro ad H locs ls stc e2 hr hfr
  obtain ⟨lv, h1, h2, h3⟩ := hfr
  obtain ⟨y1, ys1, rfl, g1, h4⟩ := h3.cons
  obtain ⟨y2, ys2, rfl, g2, h5⟩ := h4.cons
  obtain ⟨y3, ys3, rfl, g3, h6⟩ := h5.cons
  obtain ⟨y4, ys4, rfl, g4, h7⟩ := h6.cons
  obtain ⟨y5, ys5, rfl, g5, h8⟩ := h7.cons
  obtain ⟨x1, rfl, k1⟩ := g1
  obtain ⟨x2, rfl, k2⟩ := g2
  obtain ⟨-, a1, rfl, k3⟩ := g3
  obtain ⟨x4, rfl, k4⟩ := g4
  obtain ⟨-, a0, rfl, k5⟩ := g5
  have k1 : x1.toInt = n := k1
  have k2 : x2.toInt = dp := k2
  have k4 : x4.toInt = sp := k4
  obtain ⟨ws, tys, aK, aP, aD, aS, aH⟩ := hr
  obtain ⟨ev0, w0, v0⟩ := aH.at hs k5
  obtain ⟨ev1, w1, v1⟩ := aH.at hd1 k3
  obtain ⟨c0, f, rfl, ⟨t0, ht0⟩, f0⟩ := v0
  obtain ⟨c1, g, rfl, ⟨t1, ht1⟩, f1⟩ := v1
  obtain ⟨p1, p2, p3, p4⟩ := hp
  have nn : ∀ {m : Int32} {i : Int}, m.toInt = i → 0 ≤ i → ¬ m < 0 ∧ m.toNatClampNeg = i.toNat := by
    intro m i hm hi
    refine ⟨fun q => ?_, ?_⟩
    · have := Int32.lt_iff_toInt_lt.mp q
      rw [hm] at this
      have z : (0 : Int32).toInt = 0 := rfl
      omega
    · show m.toInt.toNat = i.toNat
      rw [hm]
  obtain ⟨m1, m2⟩ := nn k1 q1
  obtain ⟨m3, m4⟩ := nn k2 q2
  obtain ⟨m5, m6⟩ := nn k4 q3
  have hc' := c_cats h8
  refine va_copyi hx hb (by rw [hml]; exact h1.1.symm) hown (hts _ p1) (hts _ p2) (hts _ p3) (hts _ p4) aK aP aD aS ks.toNat kd.toNat t0 t1 w0 w1 ht0 ht1 rfl m5 m3 m1 (by rw [m6, m2]; show sp.toNat + n.toNat ≤ na; omega) (by rw [m4, m2]; show dp.toNat + n.toNat ≤ nb; omega) (fun _ _ => rfl) hR1 ?_ hd (fun H1 locs1 hP hD hS => ?_)
  · have : nativeFrameWords "java/lang/System" "arraycopy" 5 = 7 := by decide
    rw [this]
    omega
  · refine kk ad H1 locs1 ls ys5 e2 ⟨_, tys, aK, hP, hD, hS, c_heap.set (T := h.1) (M := h.2) aH w1 hd1 (fun j hj => ?_) ⟨c1, _, rfl, ⟨t1, ht1⟩, fun j hj => ?_⟩⟩ ⟨lv, h1, h2, h8⟩
    · funext b
      simp [hj]
    · have hj : j < nb := hj
      show (va_cpy f g x4.toNatClampNeg x2.toNatClampNeg x1.toNatClampNeg j).toInt = if kd.toNat = kd.toNat ∧ dp.toNat ≤ j ∧ j < dp.toNat + n.toNat then h.2 ks.toNat (sp.toNat + (j - dp.toNat)) else h.2 kd.toNat j
      unfold va_cpy
      rw [m6, m4, m2]
      by_cases hh : dp.toNat ≤ j ∧ j < dp.toNat + n.toNat
      · rw [if_pos hh, if_pos ⟨rfl, hh⟩]
        exact f0 _ (show sp.toNat + (j - dp.toNat) < na by omega)
      · rw [if_neg hh, if_neg (fun q => hh q.2)]
        exact f1 j hj
/-- what a call may count on, and what it gives back -/
def c_B (P : xP) (D : va_G) (cl : List vw_C) (B0 sc : Nat) (ad : List Nat) (h : cH) (U : State) : Prop := ∃ (ws : va_W) (tys : List (ClassId × FieldType)), va_K D cl tys U ∧ va_P D cl ws U.heap ∧ va_D (fun q : Nat => B0 ≤ q) ws ∧ c_heap P ad sc tys h ws
def c_rv (ad : List Nat) (sc : Nat) : Option cV → Option Value → Prop
  | none, none => True
  | some v, some x => c_val ad sc v x
  | _, _ => False
def c_Qc (P : xP) (D : va_G) (cl : List vw_C) (B0 sc : Nat) (r : Option cV) (h' : cH) (ad : List Nat) : Array Value → State → Outcome → State → Prop := fun _ st o t =>
  (∃ (xo : Option Value) (ad' : List Nat), o = .returned xo ∧ c_rv ad' sc r xo ∧ x_ext ad ad' ∧ c_B P D cl B0 sc ad' h' t) ∧ va_F (fun q : Nat => B0 ≤ q) st t
theorem c_go_call {mc ms ca sa : Nat} {r : Option cV} {h' : cH} {ad : List Nat} {H : Heap} {locs : List Loc} {ls : Array Slot} {st0 rest : List Value} {av : Array Value} (hrun : va_Run p l e R s mid args below meth c H locs ca sa mc ms (F0 mid pc ls st0) rest (c_Qc P D cl B0 sc r h' ad av) (fun q : Nat => B0 ≤ q)) (hS : va_S (fun q : Nat => B0 ≤ q) s.heap H locs)
    (kk : ∀ (xo : Option Value) (ad' : List Nat) (H1 : Heap) (locs1 : List Loc), c_rv ad' sc r xo → x_ext ad ad' → c_rel P D cl B0 sc s ad' h' H1 locs1 → W p l e R s mid args below meth c H1 locs1 (ca + mc) (sa + ms) Q (F0 mid (pc + 3) ls (xo.toList ++ rest))) : W p l e R s mid args below meth c H locs ca sa Q (F0 mid pc ls st0) := by
  intro T hT X
  obtain ⟨v, st₀, t, T', Lc, h0, X', hL, e1, e2, ⟨⟨xo, ad', q2, q3, q5, ⟨ws, tys, r1, r2, r3, r4⟩⟩, hz, hk⟩, stp⟩ := hrun T hT X
  cases q2
  rw [h0] at hz hk
  have hvm : s.vm.Alike t.vm := by rw [← e2]; exact X'.warmed.alike
  have hS1 : va_S (fun q : Nat => B0 ≤ q) s.heap T'.heap (locs ++ Lc) := ⟨Nat.le_trans hS.1 (by rw [e1]; exact hz), fun q h1 h2 => by rw [e1, hk q (Nat.lt_of_lt_of_le h1 hS.1) h2]; exact hS.2.1 q h1 h2, fun q hq => by
      rcases List.mem_append.mp hq with h | h
      · exact hS.2.2 q h
      · exact hL q h⟩
  obtain ⟨t2, a1, b1⟩ := kk v ad' T'.heap (locs ++ Lc) q3 q5 ⟨ws, tys, va_K.moved hvm.symm r1, by rw [e1]; exact r2, r3, hS1, r4⟩ T' rfl X'
  exact ⟨t2, stp t2 a1, b1⟩
end CD
/-- a frame's surroundings; d: how many frames may stand on it -/
def c_Ctx (P : xP) (B0 : Nat) (p : Program) (R : Room) (s : State) (mid : MethodId) (args : Array Value) (meth : Method) (c : Code) (m d : Nat) : Prop :=
  p.tables.exec = Jvm.exec ∧ c.code = x_by P m ∧ meth.sig.returnType = x_rt P m ∧ c.maxLocals = x_maxL P m ∧ s.vm.findClass (x_nm P m).cls = some mid.cls ∧ (∀ w ∈ x_tbl, w.before args s = true) ∧ (∀ w ∈ x_nest, va_Nw w s) ∧ meth.locks = false ∧ ((x_nm P m).name = "<init>" → meth.name = "<init>") ∧ B0 ≤ s.heap.size ∧
  d + 1 ≤ R.frames ∧ 100 * (d + 1) ≤ R.locals
/-- what is said of the runs of n steps -/
def c_Snd (P : xP) (D : va_G) (cl : List vw_C) (B0 sc : Nat) (l : Launch) (xs : Nat → Int) (Ln n : Nat) : Prop :=
  ∀ (d m pc : Nat) (L : List (Nat × cV)) (st : List cV) (h : cH) (r : Option cV) (h' : cH), c_exec P xs Ln n d m pc L st h = some (r, h') →
  ∀ (p : Program) (e : Env) (R : Room) (s : State) (mid : MethodId) (args : Array Value) (below : List Frame) (meth : Method) (c : Code) (Q : State → Prop) (ad0 : List Nat) (n0 s0 : Nat), c_Ctx P B0 p R s mid args meth c m d → (m = 0 → c_Scr B0 sc xs Ln s) →
  n0 ≤ h.1.length → s0 ≤ c_sz P h.1 → h'.1.length - n0 ≤ R.cells → c_sz P h'.1 - s0 ≤ R.slots →
  (∀ (pc : Nat) (L : List (Nat × cV)) (st : List cV) (i : Instr) (len : Nat), x_code P m pc = some (i, len) → x_isRet i → c_ins P m pc L st h' xs Ln i len = some (.inr (.inl r)) → c_OKs p l e R s mid args below meth c Q P D cl B0 sc (x_maxL P m) ad0 n0 s0 pc L st h') →
  c_OKs p l e R s mid args below meth c Q P D cl B0 sc (x_maxL P m) ad0 n0 s0 pc L st h
theorem c_if_ok {b : Bool} {r : Option cO} {o : cO} (h : c_if b r = some o) : b = true ∧ r = some o := by
  cases b with
  | false => cases h
  | true => exact ⟨rfl, h⟩
theorem c_blind {P : xP} {D : va_G} {cl : List vw_C} {B0 sc : Nat} {ad : List Nat} {h : cH} {av : List Value} : FrameBlind (va_Pc av (fun U => B0 ≤ U.heap.size ∧ (∀ w ∈ x_nest, va_Nw w U) ∧ c_B P D cl B0 sc ad h U)) := by
  intro a U g mk q
  obtain ⟨q0, q1, q2, ws, tys, r1, r2, r3, r4⟩ := q
  exact ⟨q0, q1, fun w hw => va_Nw.same (u := U) (U := U.calling g mk a) (x_nest_on hw) rfl (q2 w hw), ws, tys, va_K.moved (u := U) (U := U.calling g mk a) (Vm.Alike.refl U.vm) r1, r2, r3, r4⟩
theorem c_B_of {P : xP} {D : va_G} {cl : List vw_C} {B0 sc : Nat} {s : State} {ad : List Nat} {h : cH} {H : Heap} {locs : List Loc} (g : c_rel P D cl B0 sc s ad h H locs) (hB : B0 ≤ s.heap.size) (hn : ∀ w ∈ x_nest, va_Nw w s) (U : State) (hU : U.heap = H) (hW : s.WarmedH U.vm) : B0 ≤ U.heap.size ∧ (∀ w ∈ x_nest, va_Nw w U) ∧ c_B P D cl B0 sc ad h U := by
  obtain ⟨ws, tys, aK, aP, aD, aS, aH⟩ := g
  exact ⟨by rw [hU]; exact Nat.le_trans hB aS.1, x_nest_warm hW hn, ws, tys, va_K.moved hW.alike aK, by rw [hU]; exact aP, aD, aH⟩
/-- the room that a callee gets -/
abbrev c_rm (P : xP) (d : Nat) (h h1 : cH) : Room := { frames := d + 1, cells := h1.1.length - h.1.length, slots := c_sz P h1.1 - c_sz P h.1, locals := 100 * (d + 1) }
abbrev x_ws (P : xP) (j : Nat) : List Cond := Cond.code (x_nm P j) (x_by P j) (x_maxL P j) (x_rt P j) :: x_tbl
/-- a callee's contract, out of its run -/
theorem c_met {P : xP} {D : va_G} {cl : List vw_C} {B0 sc : Nat} {l : Launch} {xs : Nat → Int} {Ln n j d : Nat} {h h1 : cH} {r : Option cV} {as : List cV} {av : List Value} {ad : List Nat} (hOK : x_OK cl P) (hS : c_Snd P D cl B0 sc l xs Ln n) (hm : x_okm P j)
    (hrun : c_exec P xs Ln n d j 0 (c_args 0 as) [] h = some (r, h1)) (hav : c_vals ad sc as av) (hfit : (as.map c_cat).sum ≤ x_maxL P j) :
    Met l (x_nm P j) (x_ws P j) (c_rm P d h h1) (va_Pc av (fun U => B0 ≤ U.heap.size ∧ (∀ w ∈ x_nest, va_Nw w U) ∧ c_B P D cl B0 sc ad h U)) (c_Qc P D cl B0 sc r h1 ad) (h1.1.length - h.1.length) (c_sz P h1.1 - c_sz P h.1) (fun q : Nat => B0 ≤ q) := by
  obtain ⟨m1, m2, m3, m4, m5, m6⟩ := hm
  refine Met.ofWF (cc := x_by P j) (maxL := x_maxL P j) (ret := x_rt P j) m3 rfl ?_
  intro p e s mid args below meth c s₁ B hml hv
  obtain ⟨rfl, hB0, hnest, ws, tys, r1, r2, r3, r4⟩ := hv
  have hlocks := B.notSynchronized
  have hts : ∀ w ∈ x_tbl, w.before av.toArray s = true := fun w hw => atoms_spec (ws := x_ws P j) B.pre w (List.mem_cons_of_mem _ hw)
  have hctx : c_Ctx P B0 p (headSpec (x_ws P j) (c_rm P d h h1)).room s mid av.toArray meth c j d :=
    ⟨B.exec, B.bytes, B.returns, hml, findClass_of_methodNamed B.named, hts, hnest, hlocks, fun z => (name_of_methodNamed B.named B.method).1.trans z, hB0, Nat.le_refl _, Nat.le_refl _⟩
  rw [lg_entry_eq]
  have hsl : ∀ (vs : List cV) (xs : List Value), c_vals ad sc vs xs → (lg_sl xs).length = (vs.map c_cat).sum := by
    intro vs
    induction vs with
    | nil => intro xs g; rw [g.nil]; rfl
    | cons v vs ih =>
      intro xs g
      obtain ⟨x, ys, rfl, g1, g2⟩ := g.cons
      have hcat := g1.cat
      rw [List.map_cons, List.sum_cons, ← ih ys g2, ← hcat]
      rcases lv_cat x with hc | hc
      · simp [lg_sl, hc]; omega
      · simp [lg_sl, hc]; omega
  have hl := lv_entry av (n := x_maxL P j) (by rw [hsl as av hav]; exact hfit)
  refine W.cells_eq (a' := h.1.length - h.1.length) (b' := c_sz P h.1 - c_sz P h.1) (Nat.sub_self _).symm (Nat.sub_self _).symm ?_
  refine hS d j 0 (c_args 0 as) [] h r h1 hrun p e _ s mid av.toArray below meth c _ ad h.1.length (c_sz P h.1) hctx (fun z => absurd z m6) (Nat.le_refl _) (Nat.le_refl _) (Nat.le_refl _) (Nat.le_refl _) ?_ ad s.heap [] _ [] (x_ext.rf _) ⟨ws, tys, r1, r2, r3, va_S.rf, r4⟩ ⟨_, hl, hav.args 0, trivial⟩
  intro pc L st i len hcode hret hins
  have hdec := hOK.1 j pc i len hcode
  intro ad' H locs ls stc e2 hr hfr
  obtain ⟨lv, q1, q2, q3⟩ := hfr
  obtain ⟨ws', tys', aK, aP, aD, aS, aH⟩ := hr
  have hq : ∀ (xo : Option Value), c_rv ad' sc r xo → ∀ t : State, t.heap = H → s.WarmedH t.vm → c_Qc P D cl B0 sc r h1 ad av.toArray s (.returned xo) t := fun xo hxo t ht hW =>
    ⟨⟨xo, ad', rfl, hxo, e2, ⟨ws', tys', va_K.moved hW.alike aK, by rw [ht]; exact aP, aD, aH⟩⟩, aS.F ht⟩
  rcases hret with rfl | rfl | rfl | rfl
  · obtain ⟨b1, b2⟩ := c_if_ok (show c_if (len == 1) (c_ret P j st 0) = some (.inr (.inl r)) from hins)
    cases x_len b1
    unfold c_ret at b2
    split at b2
    next v =>
      split at b2
      next hc =>
        cases b2
        obtain ⟨x, ys, rfl, gx, h4⟩ := q3.cons
        rw [h4.nil]
        obtain ⟨nn, rfl, gn⟩ := gx.int hc.1
        rcases hc.2 with ⟨-, hk⟩ | ⟨-, hk, hz⟩ | ⟨hk, -⟩ | ⟨hk, -⟩
        · rw [hk] at m5
          have m5 : x_rt P j = some .int := m5
          exact W.iret B.exec B.bytes (B.returns.trans m5) (hq (some (.int nn)) gx) aS.2.2 hdec
        · rw [hk] at m5
          have m5 : x_rt P j = some .boolean := m5
          have hfit := c_fit_ok (kd := 3) gx hz (show x_tyk 3 .boolean from rfl)
          exact W.zret B.exec B.bytes (B.returns.trans m5) hfit.1 (hq (some (.int nn)) gx) aS.2.2 hdec
        · cases hk
        · cases hk
      next => cases b2
    next => cases b2
  · obtain ⟨b1, b2⟩ := c_if_ok (show c_if (len == 1) (c_ret P j st 1) = some (.inr (.inl r)) from hins)
    cases x_len b1
    unfold c_ret at b2
    split at b2
    next v =>
      split at b2
      next hc =>
        cases b2
        obtain ⟨x, ys, rfl, gx, h4⟩ := q3.cons
        rw [h4.nil]
        obtain ⟨nn, rfl, gn⟩ := gx.long hc.1
        rcases hc.2 with ⟨hk, -⟩ | ⟨hk, -⟩ | ⟨-, hk⟩ | ⟨hk, -⟩
        · cases hk
        · cases hk
        · rw [hk] at m5
          have m5 : x_rt P j = some .long := m5
          exact W.lret B.exec B.bytes (B.returns.trans m5) (hq (some (.long nn)) gx) aS.2.2 hdec
        · cases hk
      next => cases b2
    next => cases b2
  · obtain ⟨b1, b2⟩ := c_if_ok (show c_if (len == 1) (c_ret P j st 3) = some (.inr (.inl r)) from hins)
    cases x_len b1
    unfold c_ret at b2
    split at b2
    next v =>
      split at b2
      next hc =>
        cases b2
        obtain ⟨x, ys, rfl, gx, h4⟩ := q3.cons
        rw [h4.nil]
        obtain ⟨aa, rfl, gn⟩ := gx.ref hc.1
        rcases hc.2 with ⟨hk, -⟩ | ⟨hk, -⟩ | ⟨hk, -⟩ | ⟨-, hk⟩
        · cases hk
        · cases hk
        · cases hk
        · rw [hk] at m5
          obtain ⟨ta, m5⟩ := (show ∃ t, x_rt P j = some (.array t) from m5)
          exact W.aret B.exec B.bytes (B.returns.trans m5) (Or.inr ⟨ta, rfl⟩) (Or.inr ⟨aa, rfl⟩) (hq (some (.ref aa)) gx) aS.2.2 hdec
      next => cases b2
    next => cases b2
  · obtain ⟨b1, b2⟩ := c_if_ok (show c_if (len == 1) (c_retV P j st) = some (.inr (.inl r)) from hins)
    cases x_len b1
    unfold c_retV at b2
    split at b2
    next =>
      split at b2
      next hc =>
        cases b2
        rw [q3.nil]
        rw [hc] at m5
        have m5 : x_rt P j = none := m5
        exact W.vret B.exec B.bytes (B.returns.trans m5) (hq none trivial) aS.2.2 hdec
      next => cases b2
    next => cases b2
