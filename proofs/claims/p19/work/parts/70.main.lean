-- ===== end of PART A; then your names; then what follows =====
/-! THE CLAIM OUT OF ONE WALK OF THE LAW'S BODY. Your part is whole_start (and what it stands on); all else here is the same for every law, but numbers. -/
def R_law : String := "OwnChairLaw"
def lw_P (b : Addr) (xs : List Int32) (args : Array Value) (s : State) : Prop := args = #[.ref b] ∧ s.IntsAt b xs ∧ xs.length ≤ 3072 ∧ (Jvm.Cond.and given_1 narrow_1).before args s = true
def lw_Q (_ : Array Value) (s : State) (o : Outcome) (t : State) : Prop := o = .returned (some (.int 1)) ∧ Framed s o t [] 600000 7302250
def lw_Z (below : List Frame) (a : Array Value) (s : State) : State → Prop := fun t => ∃ o, t.status = .running ∧ Ended t below o ∧ lw_Q a s o t
/-- the law's own end, with 1 on the stack, nothing written that was there before, its room as the claim has it -/
theorem lw_ret {p : Program} {l : Launch} {e : Env} {s : State} {m : MethodId} {below : List Frame} {meth : Method} {c : Code} {b : Nat} (hx : p.tables.exec = Jvm.exec) (hb : c.code = code) (hr : meth.sig.returnType = ret) (hlocks : meth.locks = false) {pc : Nat} {H : Heap} {ls : Array Slot} (hdg : decode code pc = .ok (.ireturn, 1)) : W p l e room_1 s m #[Value.ref b] below meth c H [] 600000 7302250 (lw_Z below #[Value.ref b] s) (F0 m pc ls [.int 1]) := by
  intro T hT X
  obtain ⟨fs, hret, hrun, hended, hW, hframe⟩ := X.leave (v := some (.int 1)) (hlocks := hlocks) (fun h => by rw [hr] at h; cases h)
  have hmeth' : T.vm.method? m = some meth := X.method'
  refine ⟨T.setFrames fs, ?_, .returned (some (.int 1)), hrun, hended, rfl, ⟨_, rfl⟩, hW, hframe⟩
  jvm_step X.here [X.here.top, hx, hb, hdg, hmeth', hr, ret, narrow_b1]
  (try refine ⟨rfl, ?_⟩); (try refine ⟨rfl, ?_⟩)
  first | (intro acts; rw [hret _ acts rfl rfl rfl]) | rw [hret _ _ rfl rfl rfl]
  exact Steps.refl _
/-- what holds at the law's entry: the machine, the code, the tables' words (any of lw_tbl by 'hts w (by decide +kernel)'), the script of L ints xs at the cell b, what the Statement gives of the start (any of its parts by flat_of_before) -/
def lw_At (p : Program) (s : State) (m : MethodId) (meth : Method) (c : Code) (b L : Nat) (xs : Nat → Int32) : Prop :=
  p.tables.exec = Jvm.exec ∧ c.code = code ∧ meth.sig.returnType = ret ∧ c.maxLocals = 4 ∧ s.vm.findClass R_law = some m.cls ∧ (∀ w ∈ lw_tbl, w.before #[Value.ref b] s = true) ∧ va_X b L xs s s.heap ∧ b < s.heap.size ∧ meth.locks = false ∧ (Jvm.Cond.and given_1 narrow_1).before #[Value.ref b] s = true
/-- the classes' numbers -/
theorem k_D {s : State} {args : Array Value} (hts : ∀ w ∈ x_tbl, w.before args s = true) : ∃ D : va_G, ∀ (k : Nat) (q : vw_C), k_cl[k]? = some q → u_Kn s q.1 q.2.1 q.2.2 (D.1 k) (D.2 k) := by
  have h : ∀ k : Nat, ∃ (cC : ClassId) (iS : Nat → Nat), ∀ q : vw_C, k_cl[k]? = some q → u_Kn s q.1 q.2.1 q.2.2 cC iS := by
    intro k
    cases hk : k_cl[k]? with
    | none => exact ⟨0, fun _ => 0, fun q hq => by cases hq⟩
    | some C =>
      have hi : Cond.instantiable C.1 C.2.2 ∈ x_tbl := k_chk_ok k_inst _ (List.mem_map.mpr ⟨C, List.mem_of_getElem? hk, rfl⟩)
      obtain ⟨cC, iS, h1⟩ := u_known (C := C.1) (T := C.2.1) (N := C.2.2) (n := C.2.2) hts (k_classes k C hk).1 (hts _ hi)
      exact ⟨cC, iS, fun q hq => by cases hq; exact h1⟩
  exact ⟨(fun k => Classical.choose (h k), fun k => Classical.choose (Classical.choose_spec (h k))), fun k q hq => Classical.choose_spec (Classical.choose_spec (h k)) q hq⟩
theorem k0_nm : x_nm k_P 0 = yL_law := rfl
theorem k0_by : x_by k_P 0 = code := rfl
theorem k0_rt : x_rt k_P 0 = ret := rfl
theorem k0_maxL : x_maxL k_P 0 = 4 := rfl
set_option maxHeartbeats 4000000 in
/-- THE LAW, from its entry -/
theorem whole_start {p : Program} {e : Env} {s : State} {m : MethodId} {below : List Frame} {meth : Method} {c : Code} (l : Launch) {b L : Nat} {xs : Nat → Int32} (hL : L ≤ 3072) (C0 : lw_At p s m meth c b L xs) : W p l e room_1 s m #[Value.ref b] below meth c s.heap [] 0 0 (lw_Z below #[Value.ref b] s) (entryFrame m ([Value.ref b] : List Value).toArray 4) := by
  obtain ⟨hx, hb, hr, hml, hown, hts0, hX, hbl, hlocks, hgv⟩ := id C0
  have hts : ∀ w ∈ x_tbl, w.before #[Value.ref b] s = true := fun w hw => hts0 w (List.mem_filter.mp hw).1
  have hnest : ∀ w ∈ x_nest, va_Nw w s := by
    intro w hw
    have hn : x_isNest w = true := (List.mem_filter.mp hw).2
    have ht : w.onTables = true := by cases w <;> first | rfl | cases hn
    exact va_Nw.of ht (hts0 w (List.mem_filter.mp hw).1)
  obtain ⟨D, hKc⟩ := k_D hts
  obtain ⟨n, h', hn, hb1, hb2⟩ := lw_run (xs := fun j => (xs j).toInt) (Ln := L) (fun j => i32_rng _) hL
  have hctx : c_Ctx k_P s.heap.size p room_1 s m #[Value.ref b] meth c 0 88 := by
    refine ⟨hx, by rw [k0_by]; exact hb, by rw [k0_rt]; exact hr, by rw [k0_maxL]; exact hml, by rw [k0_nm]; exact hown, hts, hnest, hlocks, fun z => ?_, Nat.le_refl _, by decide, by decide⟩
    rw [k0_nm] at z
    exact absurd z (by decide)
  have hscr : c_Scr s.heap.size b (fun j => (xs j).toInt) L s := ⟨xs, hX, hbl, Nat.not_le.mpr hbl, by omega, fun j _ => rfl⟩
  have main := c_snd (P := k_P) (D := D) (cl := k_cl) (B0 := s.heap.size) (sc := b) (l := l) (xs := fun j => (xs j).toInt) (Ln := L) k_ok n 88 0 0 [(0, (4, 0))] [] ([], fun _ _ => 0) (some (0, 1)) h' hn p e room_1 s m #[Value.ref b] below meth c (lw_Z below #[Value.ref b] s) [] 0 0 hctx (fun _ => hscr) (Nat.zero_le _) (Nat.zero_le _) (by show h'.1.length - 0 ≤ 600000; omega) (by show c_sz k_P h'.1 - 0 ≤ 7302250; omega) (by
    intro pc Lv st i len hcode hret hins ad H locs ls stc e2 hrel hfr
    have hdec := k_ok.1 0 pc i len hcode
    rw [k0_by] at hdec
    obtain ⟨lv, h1, h2, h3⟩ := hfr
    obtain ⟨ws', tys', aK, aP, aD, aS, aH⟩ := hrel
    rcases hret with rfl | rfl | rfl | rfl
    · obtain ⟨b1, b2⟩ := c_if_ok (show c_if (len == 1) (c_ret k_P 0 st 0) = some _ from hins)
      cases x_len b1
      unfold c_ret at b2
      split at b2
      next v =>
        split at b2
        next hv =>
          cases b2
          obtain ⟨x, ys, rfl, gx, h4⟩ := h3.cons
          rw [h4.nil]
          obtain ⟨nn, rfl, gn⟩ := gx.int rfl
          have gn : nn.toInt = 1 := gn
          have e3 : nn = 1 := Int32.toInt_inj.mp gn
          subst e3
          refine va_forget (fun q hq => aS.2.2 q hq) ?_
          refine W.widen (k := 600000) (n := 7302250) (by omega) (by omega) ?_
          exact lw_ret hx hb hr hlocks hdec
        next => cases b2
      next => cases b2
    · obtain ⟨b1, b2⟩ := c_if_ok (show c_if (len == 1) (c_ret k_P 0 st 1) = some _ from hins)
      unfold c_ret at b2
      split at b2
      next v =>
        split at b2
        next hv =>
          cases b2
          exact absurd hv.1 (by decide)
        next => cases b2
      next => cases b2
    · obtain ⟨b1, b2⟩ := c_if_ok (show c_if (len == 1) (c_ret k_P 0 st 3) = some _ from hins)
      unfold c_ret at b2
      split at b2
      next v =>
        split at b2
        next hv =>
          cases b2
          exact absurd hv.1 (by decide)
        next => cases b2
      next => cases b2
    · obtain ⟨b1, b2⟩ := c_if_ok (show c_if (len == 1) (c_retV k_P 0 st) = some _ from hins)
      unfold c_retV at b2
      (repeat' split at b2) <;> cases b2)
  rw [k0_maxL] at main
  rw [lg_entry_eq]
  have hl := lv_entry ([.ref b]) (n := 4) (Nat.le_of_ble_eq_true rfl)
  refine W.cells_eq rfl rfl (main [] s.heap [] _ [] (x_ext.rf _) ⟨[], [], ⟨hKc, fun k q h => by simp at h⟩, fun k q h => by simp at h, ⟨fun i j p q h => by simp at h, fun k q h => by simp at h⟩, va_S.rf, ⟨rfl, rfl, fun k c q h => by simp at h⟩⟩ ⟨_, hl, ⟨rfl, rfl, trivial⟩, trivial⟩)
-- ===== YOUR PART ENDS =====
set_option maxHeartbeats 4000000 in
theorem lw_walk (l : Launch) (b : Addr) (xs : List Int32) : MetFree l x (headSpec (Jvm.Cond.code x code maxLocals ret :: tables_1) room_1) (lw_P b xs) (fun _ _ _ _ _ => True) lw_Q := by
  refine MetFree.of_bodyS (code := code) (maxLocals := maxLocals) (ret := ret) (by decide) ?_ ?_
  · intro args s m h hn
    obtain ⟨meth, c, h1, h2, h3, h4, h5, h6, -, -⟩ := Cond.code_spec hn (atoms_spec (ws := Jvm.Cond.code x code maxLocals ret :: tables_1) h _ List.mem_cons_self)
    exact ⟨meth, c, h1, h2, h3, h4, h5, h6⟩
  · intro p e s m args below meth c s₁ B hml0 hP _
    obtain ⟨rfl, hx, hbd, hgv⟩ := hP
    obtain ⟨scr, harrAt, hlist, hof, hsmall⟩ := hx
    obtain ⟨hcb, hkn, -, -⟩ := State.arrayAt?_spec harrAt
    have hown : s.vm.findClass R_law = some m.cls := findClass_of_methodNamed B.named
    have hts0 : ∀ c ∈ (Jvm.Cond.code x code maxLocals ret :: tables_1), c.before #[Value.ref b] s = true := atoms_spec (ws := Jvm.Cond.code x code maxLocals ret :: tables_1) B.pre
    have hts : ∀ w ∈ lw_tbl, w.before #[Value.ref b] s = true := k2_hts_sels lw_privs (fun w hw => hts0 w (List.mem_cons_of_mem _ hw)) lw_privs_ok
    have hml : c.maxLocals = 4 := B.maxLocals_eq (hts0 _ List.mem_cons_self)
    have X₀ : Stand p l e room_1 s m #[Value.ref b] below meth c s₁ [] 0 0 := Stand.of_body B
    have hh0 : s₁.heap = s.heap := by rw [B.state]; rfl
    have hsz : scr.slots.size = xs.length := by rw [← Array.length_toList, hlist, List.length_map]
    have hval : ∀ j : Nat, j < xs.length → scr.slots[j]? = some (.int (xs.getD j 0)) := fun j hj => by
      rw [← Array.getElem?_toList, hlist]
      simp [hj]
    have hbl : b < s.heap.size := (Array.getElem?_eq_some_iff.mp hcb).1
    have hX : va_X b xs.length (fun j => xs.getD j 0) s s.heap := ⟨scr, hcb, hof, hkn, hsz, hval⟩
    have K : W p l e room_1 s m #[Value.ref b] below meth c s₁.heap [] 0 0 (lw_Z below #[Value.ref b] s) (entryFrame m ([Value.ref b] : List Value).toArray 4) := by
      rw [hh0]
      exact whole_start l hbd ⟨B.exec, B.bytes, B.returns, hml, hown, hts, hX, hbl, B.notSynchronized, hgv⟩
    obtain ⟨t, a1, o, b1, b2, b3⟩ := K s₁ rfl X₀
    exact ⟨t, o, a1, b1, b2, b3⟩
theorem lw_pre_spec {args : Array Value} {s : State} (h : (Jvm.Cond.and given_1 narrow_1).before args s = true) (hr : rest_1_c.before args s = true) : ∃ (b : Addr) (xs : List Int32), lw_P b xs args s := by
  have hs := flat_of_before _ h
  have hq := flat_of_before _ hr
  have hc : (Cond.count 1).before args s = true := hs _ (by decide +kernel)
  have harr : (Cond.arrayOf (.arg 0) .int).before args s = true := hs _ (by decide +kernel)
  have hle : (Cond.le (.length (.arg 0)) (.int 3072)).before args s = true := hs _ (by decide +kernel)
  have hlen : (Cond.isInt (.length (.arg 0))).before args s = true := hq _ (by decide +kernel)
  have hall : (Cond.all (.arg 0) (.isInt (.elem (.arg 0) (.index 0)))).before args s = true := hq _ (by decide +kernel)
  obtain ⟨b, xs, hb, hx⟩ := State.ints_of_pre rfl harr hlen hall
  have hsm : xs.length < 2 ^ 31 := hx.choose_spec.2.2.2
  have hev : (Term.length (.arg 0)).eval args s none [] s = some (.int xs.length.toInt32) := hx.length_eval hb
  have hv := Cond.le_ints hev (show (Term.int 3072).eval args s none [] s = some (.int 3072) from rfl)
  have hd : xs.length.toInt32 ≤ 3072 := by
    simpa [Cond.before, Cond.holds, hv] using hle
  have hN : xs.length ≤ 3072 := (Int32.ofNat_le_ofNat hsm (by decide)).mp (show Int32.ofNat xs.length ≤ Int32.ofNat 3072 from hd)
  exact ⟨b, xs, Cond.one_arg hc (show args[0]? = some (.ref b) from hb), hx, hN, h⟩
theorem lw_comes (l : Launch) : Comes l x (Jvm.Cond.code x code maxLocals ret :: tables_1) room_1 (fun tb e args s => Calls_1 tb e args s ∧ rest_1 tb e args s ∧ Pre_1 tb e args s)
    (fun _ _ args s o t => lw_Q args s o t) := by
  intro p e ha hc hk s m args below hf hfit hheap happ hpre
  obtain ⟨b, xs, hP⟩ := lw_pre_spec hpre.2.2 hpre.2.1
  obtain ⟨k, o, h1, h2, h3, hQ⟩ := lw_walk l b xs p e ha hc hk s m args below hf ((Spec.applies_iff_loose hf).mp happ).1 hP trivial
  exact ⟨k, o, h1, h2, h3, hQ⟩
theorem lw_frame {s t : State} {o : Outcome} {args : Array Value} (h : Framed s o t [] 600000 7302250) :
    Framed s o t (fieldLocs frame_1_writes args s ++ arrayLocs frame_1_arrays args s ++ staticLocs frame_1_statics s) 600000 7302250 := h
theorem lw_limb (L : Cond) (hL : ∀ (args : Array Value) (s t : State), L.after args s (.returned (some (.int 1))) t = true) :
    ArmFor flags0 classFile x code maxLocals ret World_1 tables_1 room_1 Calls_1 rest_1 Pre_1
      (fun tb e a s o t => postC L tb e a s o t ∧ Framed s o t (fieldLocs frame_1_writes a s ++ arrayLocs frame_1_arrays a s ++ staticLocs frame_1_statics s) 600000 7302250) := by
  intro l _ _ _ p e ha hc hk s m args below hf hfit hheap happ hpre
  obtain ⟨k, o, h1, h2, h3, rfl, hF⟩ := lw_comes l p e ha hc hk s m args below hf hfit hheap happ hpre
  exact ⟨k, _, h1, h2, h3, hL args s _, lw_frame hF⟩
theorem i_vc : Claimed_1_1 ∧ Claimed_1_2 := ⟨lw_limb limb_1_1 (fun args s t => by simp [limb_1_1, Cond.after, Cond.holds, Cond.value]), lw_limb limb_1_2 (fun args s t => Cond.after_iff.mpr (by
  first | (rw [show limb_1_2 = Cond.eq .result (.int 1) from rfl, Cond.eq_ints (x := 1) (y := 1) rfl rfl]; simp; done) | (simp [limb_1_2, Cond.value, Term.eval]; done)))⟩
