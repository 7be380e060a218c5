/-! switches, the script, calls and ends -/
section XD
variable {p : Program} {l : Launch} {e : Env} {R : Room} {s : State} {mid : MethodId} {args : Array Value} {below : List Frame} {meth : Method} {c : Code} {Q : State → Prop} {D : va_G} {cl : List vw_C} {B0 sc nL : Nat} {ρ0 : List Int} {ad0 : List Nat}
  {pc : Nat} {L : List (Nat × xV)} {st : List xV} {cc ss : Nat} {h : List xC} {E : xE} {cb : ByteArray} {P : xP} {own : String}
theorem x_w_sw {v : xV} {r : List xV} {dflt lo hi : Int} {offs : Array Int} {len : Nat} (hx : p.tables.exec = Jvm.exec) (hb : c.code = cb) (hd : decode cb pc = .ok (.tableswitch dflt lo hi offs, len)) (hv : v.1 = 0) (h0 : 0 ≤ (pc : Int) + dflt) (hall : ∀ o ∈ offs.toList, 0 ≤ (pc : Int) + o) (hlen : (offs.toList.length : Int) = hi - lo + 1)
    (k1 : (x_iv E v).1 < lo → x_OKs p l e R s mid args below meth c Q D cl B0 sc nL ρ0 ad0 ((pc : Int) + dflt).toNat L r cc ss h (x_cap E v (-x_M) (lo - 1))) (k2 : hi < (x_iv E v).2 → x_OKs p l e R s mid args below meth c Q D cl B0 sc nL ρ0 ad0 ((pc : Int) + dflt).toNat L r cc ss h (x_cap E v (hi + 1) x_M))
    (k3 : ∀ (k : Nat) (off : Int), offs.toList[k]? = some off → x_can .eq (x_iv E v) (lo + k, lo + k) = true → x_OKs p l e R s mid args below meth c Q D cl B0 sc nL ρ0 ad0 ((pc : Int) + off).toNat L r cc ss h (x_cap E v (lo + k) (lo + k))) : x_OKs p l e R s mid args below meth c Q D cl B0 sc nL ρ0 ad0 pc L (v :: r) cc ss h E := by
  intro ρ ad H locs ls stc e1 e2 hr hfr
  obtain ⟨lv, h1, h2, h3⟩ := hfr
  obtain ⟨y, ys, rfl, g1, h4⟩ := h3.cons
  obtain ⟨n, rfl, gn⟩ := g1.int hv
  have hb1 := x_iv_ok hr.env gn
  have hM := x_b32 n
  by_cases hlo : n.toInt < lo
  · exact lv_tableOut hx hb hd (Or.inl hlo) (by omega) (k1 (by omega) ρ ad H locs ls ys e1 e2 (hr.grow (x_ext.rf _) (x_cap_ok hr.env gn hM.1 (by omega))) ⟨lv, h1, h2, h4⟩)
  by_cases hhi : hi < n.toInt
  · exact lv_tableOut hx hb hd (Or.inr hhi) (by omega) (k2 (by omega) ρ ad H locs ls ys e1 e2 (hr.grow (x_ext.rf _) (x_cap_ok hr.env gn (by omega) hM.2)) ⟨lv, h1, h2, h4⟩)
  have hk : (n.toInt - lo).toNat < offs.toList.length := by omega
  have he : offs.toList[(n.toInt - lo).toNat]? = some offs.toList[(n.toInt - lo).toNat] := List.getElem?_eq_getElem hk
  have hn : lo + ((n.toInt - lo).toNat : Int) = n.toInt := by omega
  have hoff := hall _ (List.mem_of_getElem? he)
  refine lv_tableIn hx hb hd hlo hhi (by rw [← Array.getElem?_toList]; exact he) (show (pc : Int) + _ = ((((pc : Int) + offs.toList[(n.toInt - lo).toNat]).toNat : Nat) : Int) by omega) ?_
  refine k3 _ _ he ?_ ρ ad H locs ls ys e1 e2 (hr.grow (x_ext.rf _) ?_) ⟨lv, h1, h2, h4⟩
  · simp only [x_can, Bool.and_eq_true, decide_eq_true_eq]
    omega
  · exact x_cap_ok hr.env gn (by omega) (by omega)
/-- the script: its length is symbol 6, its ints are symbols 0 to 5 -/
def x_Scr (B0 sc : Nat) (ρ0 : List Int) (s : State) : Prop := ∃ (Ln : Nat) (xs : Nat → Int32), va_X sc Ln xs s s.heap ∧ sc < s.heap.size ∧ ¬ B0 ≤ sc ∧ Ln ≤ 6 ∧ ρ0[6]? = some (Ln : Int) ∧ ∀ j : Nat, j < 6 → ρ0[j]? = some (xs j).toInt
theorem x_w_slen {b : Option Nat} {k : Int} {r : List xV} (hx : p.tables.exec = Jvm.exec) (hb : c.code = cb) (hd : decode cb pc = .ok (.arraylength, 1)) (hs : x_Scr B0 sc ρ0 s) (kk : x_OKs p l e R s mid args below meth c Q D cl B0 sc nL ρ0 ad0 (pc + 1) L ((0, some 6, 0) :: r) cc ss h E) : x_OKs p l e R s mid args below meth c Q D cl B0 sc nL ρ0 ad0 pc L ((4, b, k) :: r) cc ss h E := by
  intro ρ ad H locs ls stc e1 e2 hr hfr
  obtain ⟨lv, h1, h2, h3⟩ := hfr
  obtain ⟨y, ys, rfl, g1, h4⟩ := h3.cons
  have g1 : y = .ref sc := g1
  subst g1
  have hr0 := hr
  obtain ⟨ws, tys, aK, aP, aD, aS, aH, aE⟩ := hr
  obtain ⟨Ln, xs, s1, s2, s3, s4, s5, s6⟩ := hs
  refine va_slen hx hb s1 s2 s3 aS hd (kk ρ ad H locs ls _ e1 e2 hr0 ⟨lv, h1, h2, ⟨_, rfl, ?_⟩, h4⟩)
  refine ⟨Ln, e1.get s5, ?_⟩
  rw [show (Int32.ofNat Ln) = nI Ln from rfl, nI_toInt (by omega)]
  exact (Int.add_zero _).symm
theorem x_w_sld {i : xV} {b : Option Nat} {k : Int} {r : List xV} (hx : p.tables.exec = Jvm.exec) (hb : c.code = cb) (hd : decode cb pc = .ok (.iaload, 1)) (hs : x_Scr B0 sc ρ0 s) (hi : i.1 = 0) (hn : i.2.1 = none) (h0 : 0 ≤ i.2.2) (h6 : i.2.2 < 6) (hl : i.2.2 < (x_iv E (0, some 6, 0)).1)
    (kk : x_OKs p l e R s mid args below meth c Q D cl B0 sc nL ρ0 ad0 (pc + 1) L ((0, some i.2.2.toNat, 0) :: r) cc ss h E) : x_OKs p l e R s mid args below meth c Q D cl B0 sc nL ρ0 ad0 pc L (i :: (4, b, k) :: r) cc ss h E := by
  intro ρ ad H locs ls stc e1 e2 hr hfr
  obtain ⟨lv, h1, h2, h3⟩ := hfr
  obtain ⟨x, xs0, rfl, gx, h4⟩ := h3.cons
  obtain ⟨y, ys, rfl, g1, h5⟩ := h4.cons
  have g1 : y = .ref sc := g1
  subst g1
  obtain ⟨n, rfl, gn⟩ := gx.int hi
  rw [hn] at gn
  have gn : n.toInt = i.2.2 := gn
  have hr0 := hr
  obtain ⟨ws, tys, aK, aP, aD, aS, aH, aE⟩ := hr
  obtain ⟨Ln, xs, s1, s2, s3, s4, s5, s6⟩ := hs
  have hb6 := x_iv_ok aE (v := (0, some 6, 0)) (r := (Ln : Int)) ⟨Ln, e1.get s5, (Int.add_zero _).symm⟩
  obtain ⟨c1, c2, c3⟩ := x_clamp (i := n) (n := Ln) (by omega) (by omega)
  refine va_sld hx hb s1 s2 s3 aS c1 hd (kk ρ ad H locs ls _ e1 e2 hr0 ⟨lv, h1, h2, ⟨_, rfl, ?_⟩, h5⟩)
  rw [c2, gn]
  exact ⟨_, e1.get (s6 i.2.2.toNat (by omega)), (Int.add_zero _).symm⟩
theorem x_cats {ρ : List Int} {ad : List Nat} {sc : Nat} : ∀ {vs : List xV} {xs : List Value}, x_vals ρ ad sc vs xs → (xs.map fun v => v.category).sum = (vs.map x_cat).sum
  | [], [], _ => rfl
  | v :: vs, x :: xs, g => by
    rw [List.map_cons, List.map_cons, List.sum_cons, List.sum_cons, g.1.cat, x_cats g.2]
  | [], _ :: _, g => g.elim
  | _ :: _, [], g => g.elim
theorem x_w_oinit {idx : Nat} {b : Option Nat} {k : Int} {r : List xV} {z : Nat × Int} (hx : p.tables.exec = Jvm.exec) (hb : c.code = cb) (hml : c.maxLocals = nL) (hown : s.vm.findClass own = some mid.cls) (hts : ∀ w ∈ x_tbl, w.before args s = true) (hp : x_okp cl P own idx (5, z)) (hd : decode cb pc = .ok (.invokespecial idx, 3))
    (hR1 : 1 ≤ R.frames) (hR2 : 20 ≤ R.locals) (hc : (r.map x_cat).sum ≤ 8) (kk : x_OKs p l e R s mid args below meth c Q D cl B0 sc nL ρ0 ad0 (pc + 3) L r cc ss h E) : x_OKs p l e R s mid args below meth c Q D cl B0 sc nL ρ0 ad0 pc L ((3, b, k) :: r) cc ss h E := by
  intro ρ ad H locs ls stc e1 e2 hr hfr
  obtain ⟨lv, h1, h2, h3⟩ := hfr
  obtain ⟨y, ys, rfl, g1, h4⟩ := h3.cons
  obtain ⟨a, rfl, ga⟩ := g1
  obtain ⟨p1, p2, p3⟩ := hp
  have hc' := x_cats h4
  refine W.objInit hx hb hown (hts _ p1) (hts _ p2) (hts _ p3) rfl (by rw [hml]; exact h1.1) rfl hd hR1 ?_ ?_
  · show 2 * 0 + (ys.map fun v => v.category).sum + 12 ≤ R.locals
    omega
  · exact kk ρ ad H locs ls ys e1 e2 hr ⟨lv, h1, h2, h4⟩
theorem x_w_cpy {idx : Nat} {n dp sp : Int} {b1 b2 : Option Nat} {kd ks : Int} {r : List xV} {n0 n1 : Nat} {lo0 hi0 lo1 hi1 : Int} {z : Nat × Int} (hx : p.tables.exec = Jvm.exec) (hb : c.code = cb) (hml : c.maxLocals = nL) (hown : s.vm.findClass own = some mid.cls) (hts : ∀ w ∈ x_tbl, w.before args s = true) (hp : x_okp cl P own idx (10, z)) (hd : decode cb pc = .ok (.invokestatic idx, 3))
    (hR1 : 1 ≤ R.frames) (hR2 : 40 ≤ R.locals) (hs : h[ks.toNat]? = some (.inl (0, n0, lo0, hi0, []))) (hd1 : h[kd.toNat]? = some (.inl (0, n1, lo1, hi1, []))) (q1 : 0 ≤ n) (q2 : 0 ≤ dp) (q3 : 0 ≤ sp) (q4 : sp + n ≤ n0) (q5 : dp + n ≤ n1) (hc : (r.map x_cat).sum ≤ 8)
    (kk : x_OKs p l e R s mid args below meth c Q D cl B0 sc nL ρ0 ad0 (pc + 3) L r cc ss (h.set kd.toNat (.inl (0, n1, min lo0 lo1, max hi0 hi1, []))) E) : x_OKs p l e R s mid args below meth c Q D cl B0 sc nL ρ0 ad0 pc L ((0, none, n) :: (0, none, dp) :: (3, b1, kd) :: (0, none, sp) :: (3, b2, ks) :: r) cc ss h E := by
  intro ρ ad H locs ls stc e1 e2 hr hfr
  obtain ⟨lv, h1, h2, h3⟩ := hfr
  obtain ⟨y1, ys1, rfl, g1, h4⟩ := h3.cons
  obtain ⟨y2, ys2, rfl, g2, h5⟩ := h4.cons
  obtain ⟨y3, ys3, rfl, g3, h6⟩ := h5.cons
  obtain ⟨y4, ys4, rfl, g4, h7⟩ := h6.cons
  obtain ⟨y5, ys5, rfl, g5, h8⟩ := h7.cons
  obtain ⟨x1, rfl, k1⟩ := g1
  obtain ⟨x2, rfl, k2⟩ := g2
  obtain ⟨a1, rfl, k3⟩ := g3
  obtain ⟨x4, rfl, k4⟩ := g4
  obtain ⟨a0, rfl, k5⟩ := g5
  have k1 : x1.toInt = n := k1
  have k2 : x2.toInt = dp := k2
  have k4 : x4.toInt = sp := k4
  obtain ⟨ws, tys, aK, aP, aD, aS, aH, aE⟩ := hr
  obtain ⟨ev0, w0, v0⟩ := aH.at hs k5
  obtain ⟨ev1, w1, v1⟩ := aH.at hd1 k3
  obtain ⟨c0, f, rfl, ⟨t0, ht0⟩, f0⟩ := v0
  obtain ⟨c1, g, rfl, ⟨t1, ht1⟩, f1⟩ := v1
  obtain ⟨p1, p2, p3, p4⟩ := hp
  have nn : ∀ {m : Int32} {i : Int}, m.toInt = i → 0 ≤ i → ¬ m < 0 ∧ m.toNatClampNeg = i.toNat := by
    intro m i hm hi
    refine ⟨fun q => ?_, ?_⟩
    · have := Int32.lt_iff_toInt_lt.mp q
      rw [hm] at this
      have z : (0 : Int32).toInt = 0 := rfl
      omega
    · show m.toInt.toNat = i.toNat
      rw [hm]
  obtain ⟨m1, m2⟩ := nn k1 q1
  obtain ⟨m3, m4⟩ := nn k2 q2
  obtain ⟨m5, m6⟩ := nn k4 q3
  have hc' := x_cats h8
  refine va_copyi hx hb (by rw [hml]; exact h1.1.symm) hown (hts _ p1) (hts _ p2) (hts _ p3) (hts _ p4) aK aP aD aS ks.toNat kd.toNat t0 t1 w0 w1 ht0 ht1 rfl m5 m3 m1 (by rw [m6, m2]; show sp.toNat + n.toNat ≤ n0; omega) (by rw [m4, m2]; show dp.toNat + n.toNat ≤ n1; omega) (fun _ _ => rfl) hR1 ?_ hd (fun H1 locs1 hP hD hS => ?_)
  · have : nativeFrameWords "java/lang/System" "arraycopy" 5 = 7 := by decide
    rw [this]
    omega
  · refine kk ρ ad H1 locs1 ls ys5 e1 e2 ⟨_, tys, aK, hP, hD, hS, aH.set w1 ⟨c1, _, rfl, ⟨t1, ht1⟩, fun j hj => ?_⟩, aE⟩ ⟨lv, h1, h2, h8⟩
    show min lo0 lo1 ≤ (va_cpy f g x4.toNatClampNeg x2.toNatClampNeg x1.toNatClampNeg j).toInt ∧ (va_cpy f g x4.toNatClampNeg x2.toNatClampNeg x1.toNatClampNeg j).toInt ≤ max hi0 hi1
    unfold va_cpy
    split
    next hh =>
      have z : lo0 ≤ (f (x4.toNatClampNeg + (j - x2.toNatClampNeg))).toInt ∧ (f (x4.toNatClampNeg + (j - x2.toNatClampNeg))).toInt ≤ hi0 := f0 _ (show x4.toNatClampNeg + (j - x2.toNatClampNeg) < n0 by rw [m6]; rw [m4, m2] at hh; rw [m4]; omega)
      omega
    next =>
      have z : lo1 ≤ (g j).toInt ∧ (g j).toInt ≤ hi1 := f1 j hj
      omega
theorem x_w_mm {v w : xV} {r : List xV} (f : xE → xV → xV → xV × xE) (op : Int32 → Int32 → Int32) (hf : ∀ {ρ : List Int} {a b : Int32}, x_env ρ E → x_ev ρ v.2.1 v.2.2 a.toInt → x_ev ρ w.2.1 w.2.2 b.toInt → x_resI ρ (f E v w) (op a b))
    (row : ∀ {x y : Int32} {H : Heap} {locs : List Loc} {ls : Array Slot} {rest : List Value}, ls.size = nL → (rest.map fun v => v.category).sum ≤ 8 → W p l e R s mid args below meth c H locs cc ss Q (F0 mid (pc + 3) ls (.int (op x y) :: rest)) → W p l e R s mid args below meth c H locs cc ss Q (F0 mid pc ls (.int y :: .int x :: rest)))
    (hv : v.1 = 0) (hw : w.1 = 0) (hc : (r.map x_cat).sum ≤ 8) (k : x_OKs p l e R s mid args below meth c Q D cl B0 sc nL ρ0 ad0 (pc + 3) L ((f E v w).1 :: r) cc ss h (f E v w).2) : x_OKs p l e R s mid args below meth c Q D cl B0 sc nL ρ0 ad0 pc L (w :: v :: r) cc ss h E := by
  intro ρ ad H locs ls stc e1 e2 hr hfr
  obtain ⟨lv, h1, h2, h3⟩ := hfr
  obtain ⟨y, ys, rfl, g1, h4⟩ := h3.cons
  obtain ⟨x, zs, rfl, g2, h5⟩ := h4.cons
  obtain ⟨b, rfl, gb⟩ := g1.int hw
  obtain ⟨a, rfl, ga⟩ := g2.int hv
  obtain ⟨t0, ρ', x1, x2, x3⟩ := hf hr.env ga gb
  exact row h1.1 (by rw [x_cats h5]; exact hc) (k ρ' ad H locs ls _ (e1.tr x1) e2 (hr.grow x1 x2) ⟨lv, h1, h2.mono x1 (x_ext.rf _), x_val.mkI t0 x3, h5.mono x1 (x_ext.rf _)⟩)
/-- what a call may count on, and what it gives back -/
def x_B (D : va_G) (cl : List vw_C) (B0 sc : Nat) (ρ : List Int) (ad : List Nat) (h : List xC) (U : State) : Prop := ∃ (ws : va_W) (tys : List (ClassId × FieldType)), va_K D cl tys U ∧ va_P D cl ws U.heap ∧ va_D (fun q : Nat => B0 ≤ q) ws ∧ x_heap ρ ad sc tys h ws
def x_rv (ρ : List Int) (ad : List Nat) (sc : Nat) : Option xV → Option Value → Prop
  | none, none => True
  | some v, some x => x_val ρ ad sc v x
  | _, _ => False
def x_Qc (P : xP) (D : va_G) (cl : List vw_C) (B0 sc n : Nat) (f : xF) (fs : List xF) (ρ : List Int) (ad : List Nat) : Array Value → State → Outcome → State → Prop := fun _ st o t =>
  (∃ (n' : Nat) (vo : Option xV) (xo : Option Value) (ρ' : List Int) (ad' : List Nat) (h' : List xC) (E' : xE), n' < n ∧ o = .returned xo ∧ x_rv ρ' ad' sc vo xo ∧ x_ext ρ ρ' ∧ x_ext ad ad' ∧ x_env ρ' E' ∧ x_B D cl B0 sc ρ' ad' h' t ∧
    x_run P n' ((f.1, f.2.1, f.2.2.1, vo.toList ++ f.2.2.2.1, f.2.2.2.2) :: fs, h', E') = true) ∧ va_F (fun q : Nat => B0 ≤ q) st t
theorem x_go_call {n mc ms : Nat} {f : xF} {fs : List xF} {ρ : List Int} {ad : List Nat} {H : Heap} {locs : List Loc} {ls : Array Slot} {st0 rest : List Value} {av : Array Value} (hrun : va_Run p l e R s mid args below meth c H locs cc ss mc ms (F0 mid pc ls st0) rest (x_Qc P D cl B0 sc n f fs ρ ad av) (fun q : Nat => B0 ≤ q)) (hS : va_S (fun q : Nat => B0 ≤ q) s.heap H locs)
    (kk : ∀ (n' : Nat) (vo : Option xV) (xo : Option Value) (ρ' : List Int) (ad' : List Nat) (h' : List xC) (E' : xE) (H1 : Heap) (locs1 : List Loc), n' < n → x_rv ρ' ad' sc vo xo → x_ext ρ ρ' → x_ext ad ad' → x_rel D cl B0 sc s ρ' ad' h' E' H1 locs1 →
      x_run P n' ((f.1, f.2.1, f.2.2.1, vo.toList ++ f.2.2.2.1, f.2.2.2.2) :: fs, h', E') = true → W p l e R s mid args below meth c H1 locs1 (cc + mc) (ss + ms) Q (F0 mid (pc + 3) ls (xo.toList ++ rest))) : W p l e R s mid args below meth c H locs cc ss Q (F0 mid pc ls st0) := by
  intro T hT X
  obtain ⟨v, st₀, t, T', Lc, h0, X', hL, e1, e2, ⟨⟨n', vo, xo, ρ', ad', h', E', q1, q2, q3, q4, q5, q6, ⟨ws, tys, r1, r2, r3, r4⟩, q8⟩, hz, hk⟩, stp⟩ := hrun T hT X
  cases q2
  rw [h0] at hz hk
  have hvm : s.vm.Alike t.vm := by rw [← e2]; exact X'.warmed.alike
  have hS1 : va_S (fun q : Nat => B0 ≤ q) s.heap T'.heap (locs ++ Lc) := ⟨Nat.le_trans hS.1 (by rw [e1]; exact hz), fun q h1 h2 => by rw [e1, hk q (Nat.lt_of_lt_of_le h1 hS.1) h2]; exact hS.2.1 q h1 h2, fun q hq => by
      rcases List.mem_append.mp hq with h | h
      · exact hS.2.2 q h
      · exact hL q h⟩
  obtain ⟨t2, a1, b1⟩ := kk n' vo v ρ' ad' h' E' T'.heap (locs ++ Lc) q1 q3 q4 q5 ⟨ws, tys, va_K.moved hvm.symm r1, by rw [e1]; exact r2, r3, hS1, r4, q6⟩ q8 T' rfl X'
  exact ⟨t2, stp t2 a1, b1⟩
end XD
/-- a frame's surroundings -/
def x_Ctx (P : xP) (B0 : Nat) (p : Program) (R : Room) (s : State) (mid : MethodId) (args : Array Value) (meth : Method) (c : Code) (m d : Nat) : Prop :=
  p.tables.exec = Jvm.exec ∧ c.code = x_by P m ∧ meth.sig.returnType = x_rt P m ∧ c.maxLocals = x_maxL P m ∧ s.vm.findClass (x_nm P m).cls = some mid.cls ∧ (∀ w ∈ x_tbl, w.before args s = true) ∧ (∀ w ∈ x_nest, va_Nw w s) ∧ meth.locks = false ∧ ((x_nm P m).name = "<init>" → meth.name = "<init>") ∧ B0 ≤ s.heap.size ∧
  50 - d ≤ R.frames ∧ 100 * (50 - d) ≤ R.locals ∧ x_mc P m ≤ R.cells ∧ x_ms P m ≤ R.slots
def x_isRet (i : Instr) : Prop := i = .ireturn ∨ i = .lreturn ∨ i = .return_
/-- what is said of the runs of n steps -/
def x_Snd (P : xP) (D : va_G) (cl : List vw_C) (B0 sc : Nat) (l : Launch) (n : Nat) : Prop :=
  ∀ (m pc : Nat) (L : List (Nat × xV)) (st : List xV) (cc ss : Nat) (fs : List xF) (h : List xC) (E : xE), x_run P n ((m, pc, L, st, cc, ss) :: fs, h, E) = true →
  ∀ (p : Program) (e : Env) (R : Room) (s : State) (mid : MethodId) (args : Array Value) (below : List Frame) (meth : Method) (c : Code) (Q : State → Prop) (ρ0 : List Int) (ad0 : List Nat), x_Ctx P B0 p R s mid args meth c m fs.length → fs.length ≤ 40 → (m = 0 → x_Scr B0 sc ρ0 s) →
  (∀ (n' pc : Nat) (L : List (Nat × xV)) (st : List xV) (cc ss : Nat) (h : List xC) (E : xE) (i : Instr) (len : Nat), n' ≤ n → x_code P m pc = some (i, len) → x_isRet i → x_run P n' ((m, pc, L, st, cc, ss) :: fs, h, E) = true → x_OKs p l e R s mid args below meth c Q D cl B0 sc (x_maxL P m) ρ0 ad0 pc L st cc ss h E) →
  x_OKs p l e R s mid args below meth c Q D cl B0 sc (x_maxL P m) ρ0 ad0 pc L st cc ss h E
theorem x_if_ok {b : Bool} {r : Option (List xS)} {lst : List xS} (h : x_if b r = some lst) : b = true ∧ r = some lst := by
  cases b with
  | false => cases h
  | true => exact ⟨rfl, h⟩
theorem x_blind {D : va_G} {cl : List vw_C} {B0 sc : Nat} {ρ : List Int} {ad : List Nat} {h : List xC} {av : List Value} : FrameBlind (va_Pc av (fun U => B0 ≤ U.heap.size ∧ (∀ w ∈ x_nest, va_Nw w U) ∧ x_B D cl B0 sc ρ ad h U)) := by
  intro a U g mk q
  obtain ⟨q0, q1, q2, ws, tys, r1, r2, r3, r4⟩ := q
  refine ⟨q0, q1, fun w hw => ?_, ws, tys, va_K.moved (u := U) (U := U.calling g mk a) (Vm.Alike.refl U.vm) r1, r2, r3, r4⟩
  have hn : x_isNest w = true := (List.mem_filter.mp hw).2
  have ht : w.onTables = true := by cases w <;> first | rfl | cases hn
  exact va_Nw.same (u := U) (U := U.calling g mk a) ht rfl (q2 w hw)
theorem x_nest_warm {s U : State} (hW : s.WarmedH U.vm) (h : ∀ w ∈ x_nest, va_Nw w s) : ∀ w ∈ x_nest, va_Nw w U := by
  intro w hw
  have hn : x_isNest w = true := (List.mem_filter.mp hw).2
  have := h w hw
  revert this
  cases w <;> first | (intro hz; exact va_Nw.warmM hW hz) | cases hn
/-- a callee's contract, out of its runs -/
theorem x_met {P : xP} {D : va_G} {cl : List vw_C} {B0 sc : Nat} {l : Launch} {n j d : Nat} {f : xF} {fs : List xF} {h : List xC} {E : xE} {as : List xV} {av : List Value} {ρ : List Int} {ad : List Nat} (hOK : x_OK cl P) (hS : x_Snd P D cl B0 sc l n) (hm : x_okm P j) (hd : fs.length = d) (hd40 : d < 40)
    (hrun : x_run P n ((j, 0, x_args 0 as, [], 0, 0) :: f :: fs, h, E) = true) (hav : x_vals ρ ad sc as av) (hE : x_env ρ E) (hfit : (as.map x_cat).sum ≤ x_maxL P j) :
    Met l (x_nm P j) (Cond.code (x_nm P j) (x_by P j) (x_maxL P j) (x_rt P j) :: x_tbl) { frames := 50 - (d + 1), cells := x_mc P j, slots := x_ms P j, locals := 100 * (50 - (d + 1)) }
      (va_Pc av (fun U => B0 ≤ U.heap.size ∧ (∀ w ∈ x_nest, va_Nw w U) ∧ x_B D cl B0 sc ρ ad h U)) (x_Qc P D cl B0 sc n f fs ρ ad) (x_mc P j) (x_ms P j) (fun q : Nat => B0 ≤ q) := by
  obtain ⟨m1, m2, m3, m4, m5, m6⟩ := hm
  refine Met.ofW (cc := x_by P j) (maxL := x_maxL P j) (ret := x_rt P j) m3 rfl ?_
  intro p e s mid args below meth c s₁ B hml hv
  obtain ⟨rfl, hB0, hnest, ws, tys, r1, r2, r3, r4⟩ := hv
  have hlocks := B.notSynchronized
  have hts : ∀ w ∈ x_tbl, w.before av.toArray s = true := fun w hw => atoms_spec (ws := Cond.code (x_nm P j) (x_by P j) (x_maxL P j) (x_rt P j) :: x_tbl) B.pre w (List.mem_cons_of_mem _ hw)
  have hctx : x_Ctx P B0 p (headSpec (Cond.code (x_nm P j) (x_by P j) (x_maxL P j) (x_rt P j) :: x_tbl) { frames := 50 - (d + 1), cells := x_mc P j, slots := x_ms P j, locals := 100 * (50 - (d + 1)) }).room s mid av.toArray meth c j (f :: fs).length :=
    ⟨B.exec, B.bytes, B.returns, hml, findClass_of_methodNamed B.named, hts, hnest, hlocks, fun z => (name_of_methodNamed B.named B.method).1.trans z, hB0, by rw [List.length_cons, hd]; exact Nat.le_refl _, by rw [List.length_cons, hd]; exact Nat.le_refl _, Nat.le_refl _, Nat.le_refl _⟩
  rw [lg_entry_eq]
  have hsl : ∀ (vs : List xV) (xs : List Value), x_vals ρ ad sc vs xs → (lg_sl xs).length = (vs.map x_cat).sum := by
    intro vs
    induction vs with
    | nil => intro xs g; rw [g.nil]; rfl
    | cons v vs ih =>
      intro xs g
      obtain ⟨x, ys, rfl, g1, g2⟩ := g.cons
      have hcat := g1.cat
      rw [List.map_cons, List.sum_cons, ← ih ys g2, ← hcat]
      rcases lv_cat x with hc | hc
      · simp [lg_sl, hc]; omega
      · simp [lg_sl, hc]; omega
  have hl := lv_entry av (n := x_maxL P j) (by rw [hsl as av hav]; exact hfit)
  refine hS j 0 (x_args 0 as) [] 0 0 (f :: fs) h E hrun p e _ s mid av.toArray below meth c _ ρ ad hctx (by rw [List.length_cons]; omega) (fun z => absurd z m6) ?_ ρ ad s.heap [] _ [] (x_ext.rf _) (x_ext.rf _) ⟨ws, tys, r1, r2, r3, va_S.rf, r4, hE⟩ ⟨_, hl, hav.args 0, trivial⟩
  -- the method's end
  intro n' pc L st cc ss h' E' i len hn' hcode hret hrun'
  obtain ⟨k, rfl⟩ : ∃ k, n' = k + 1 := by
    cases n' with
    | zero => cases hrun'
    | succ k => exact ⟨k, rfl⟩
  obtain ⟨lst, hstep, hall⟩ := x_run_ok hrun'
  have hstep : x_ins P j pc L st cc ss (f :: fs) h' E' i len = some lst := by
    have : x_step P ((j, pc, L, st, cc, ss) :: f :: fs, h', E') = x_ins P j pc L st cc ss (f :: fs) h' E' i len := by
      simp only [x_step, hcode]
    rw [← this]
    exact hstep
  have hdec := hOK.1 j pc i len hcode
  obtain ⟨fm, fpc, fL, fst, fcc, fss⟩ := f
  intro ρ' ad' H locs ls stc e1 e2 hr hfr
  obtain ⟨lv, h1, h2, h3⟩ := hfr
  have hE' := hr.env
  obtain ⟨ws', tys', aK, aP, aD, aS, aH, aE⟩ := hr
  rcases hret with rfl | rfl | rfl
  · obtain ⟨b1, b2⟩ := x_if_ok (show x_if (len == 1) (x_ret P j st cc ss ((fm, fpc, fL, fst, fcc, fss) :: fs) h' E' 0) = some lst from hstep)
    have b1 : len = 1 := by simpa using b1
    subst b1
    cases st with
    | nil => cases b2
    | cons v r =>
      cases r with
      | cons _ _ => cases b2
      | nil =>
        unfold x_ret at b2
        dsimp only at b2
        split at b2
        next hv =>
          split at b2
          next hc =>
            cases b2
            obtain ⟨x, ys, rfl, gx, h4⟩ := h3.cons
            rw [h4.nil]
            obtain ⟨nn, rfl, gn⟩ := gx.int hv
            refine W.widen (k := x_mc P j) (n := x_ms P j) hc.1 hc.2.1 ?_
            have hq : ∀ t : State, t.heap = H → s.WarmedH t.vm → x_Qc P D cl B0 sc n (fm, fpc, fL, fst, fcc, fss) fs ρ ad av.toArray s (.returned (some (.int nn))) t := fun t ht hW =>
              ⟨⟨k, some v, some (.int nn), ρ', ad', h', E', by omega, rfl, gx, e1, e2, hE', ⟨ws', tys', va_K.moved hW.alike aK, by rw [ht]; exact aP, aD, aH⟩, hall _ (List.mem_singleton.mpr rfl)⟩, aS.F ht⟩
            rcases hc.2.2 with ⟨-, hk⟩ | ⟨-, hk, hz⟩ | ⟨hk, -⟩
            · rw [hk] at m5
              have m5 : x_rt P j = some .int := m5
              exact W.iret B.exec B.bytes (B.returns.trans m5) hq aS.2.2 hdec
            · rw [hk] at m5
              have m5 : x_rt P j = some .boolean := m5
              have hfit := x_fit_ok (kd := 3) hE' gx hz (show x_tyk 3 .boolean from rfl)
              exact W.zret B.exec B.bytes (B.returns.trans m5) hfit.1 hq aS.2.2 hdec
            · cases hk
          next => cases b2
        next => cases b2
  · obtain ⟨b1, b2⟩ := x_if_ok (show x_if (len == 1) (x_ret P j st cc ss ((fm, fpc, fL, fst, fcc, fss) :: fs) h' E' 1) = some lst from hstep)
    have b1 : len = 1 := by simpa using b1
    subst b1
    cases st with
    | nil => cases b2
    | cons v r =>
      cases r with
      | cons _ _ => cases b2
      | nil =>
        unfold x_ret at b2
        dsimp only at b2
        split at b2
        next hv =>
          split at b2
          next hc =>
            cases b2
            obtain ⟨x, ys, rfl, gx, h4⟩ := h3.cons
            rw [h4.nil]
            obtain ⟨nn, rfl, gn⟩ := gx.long hv
            refine W.widen (k := x_mc P j) (n := x_ms P j) hc.1 hc.2.1 ?_
            have hq : ∀ t : State, t.heap = H → s.WarmedH t.vm → x_Qc P D cl B0 sc n (fm, fpc, fL, fst, fcc, fss) fs ρ ad av.toArray s (.returned (some (.long nn))) t := fun t ht hW =>
              ⟨⟨k, some v, some (.long nn), ρ', ad', h', E', by omega, rfl, gx, e1, e2, hE', ⟨ws', tys', va_K.moved hW.alike aK, by rw [ht]; exact aP, aD, aH⟩, hall _ (List.mem_singleton.mpr rfl)⟩, aS.F ht⟩
            rcases hc.2.2 with ⟨hk, -⟩ | ⟨hk, -⟩ | ⟨-, hk⟩
            · cases hk
            · cases hk
            · rw [hk] at m5
              have m5 : x_rt P j = some .long := m5
              exact W.lret B.exec B.bytes (B.returns.trans m5) hq aS.2.2 hdec
          next => cases b2
        next => cases b2
  · obtain ⟨b1, b2⟩ := x_if_ok (show x_if (len == 1) (x_retV P j st cc ss ((fm, fpc, fL, fst, fcc, fss) :: fs) h' E') = some lst from hstep)
    have b1 : len = 1 := by simpa using b1
    subst b1
    cases st with
    | cons _ _ => cases b2
    | nil =>
      unfold x_retV at b2
      dsimp only at b2
      split at b2
      next hc =>
        cases b2
        rw [h3.nil]
        refine W.widen (k := x_mc P j) (n := x_ms P j) hc.1 hc.2.1 ?_
        have hq : ∀ t : State, t.heap = H → s.WarmedH t.vm → x_Qc P D cl B0 sc n (fm, fpc, fL, fst, fcc, fss) fs ρ ad av.toArray s (.returned none) t := fun t ht hW =>
          ⟨⟨k, none, none, ρ', ad', h', E', by omega, rfl, trivial, e1, e2, hE', ⟨ws', tys', va_K.moved hW.alike aK, by rw [ht]; exact aP, aD, aH⟩, hall _ (List.mem_singleton.mpr rfl)⟩, aS.F ht⟩
        have m5' := m5
        rw [hc.2.2] at m5'
        have m5' : x_rt P j = none := m5'
        exact W.vret B.exec B.bytes (B.returns.trans m5') hq aS.2.2 hdec
      next => cases b2
