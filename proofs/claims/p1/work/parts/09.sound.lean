/-! the executor is sound -/
theorem x_goodIn {w0 : Cond} (h : w0 ∈ x_tbl) : GoodIn x_tbl (w0 :: x_tbl) := by
  have hg : ∀ w ∈ x_tbl, w ∈ x_tbl ∧ ((w.onTables && w.keeps) = true ∨ ∃ ty, w = .arrayClass ty) := fun w hw => ⟨hw, good_of_word (List.mem_filter.mp hw).2⟩
  intro w hw
  rcases List.mem_cons.mp hw with rfl | hw
  · exact hg _ h
  · exact hg _ hw
theorem x_B_of {D : va_G} {cl : List vw_C} {B0 sc : Nat} {s : State} {ρ : List Int} {ad : List Nat} {h : List xC} {E : xE} {H : Heap} {locs : List Loc} (g : x_rel D cl B0 sc s ρ ad h E H locs) (hB : B0 ≤ s.heap.size) (hn : ∀ w ∈ x_nest, va_Nw w s) (U : State) (hU : U.heap = H) (hW : s.WarmedH U.vm) : B0 ≤ U.heap.size ∧ (∀ w ∈ x_nest, va_Nw w U) ∧ x_B D cl B0 sc ρ ad h U := by
  obtain ⟨ws, tys, aK, aP, aD, aS, aH, aE⟩ := g
  exact ⟨by rw [hU]; exact Nat.le_trans hB aS.1, x_nest_warm hW hn, ws, tys, va_K.moved hW.alike aK, by rw [hU]; exact aP, aD, aH⟩
section XI
variable {p : Program} {l : Launch} {e : Env} {R : Room} {s : State} {mid : MethodId} {args : Array Value} {below : List Frame} {meth : Method} {c : Code} {Q : State → Prop} {D : va_G} {cl : List vw_C} {B0 sc : Nat} {ρ0 : List Int} {ad0 : List Nat}
  {m pc : Nat} {L : List (Nat × xV)} {st : List xV} {cc ss : Nat} {fs : List xF} {h : List xC} {E : xE} {P : xP}
/-- the room that a callee gets -/
abbrev x_rm (P : xP) (d j : Nat) : Room := { frames := 50 - (d + 1), cells := x_mc P j, slots := x_ms P j, locals := 100 * (50 - (d + 1)) }
abbrev x_ws (P : xP) (j : Nat) : List Cond := Cond.code (x_nm P j) (x_by P j) (x_maxL P j) (x_rt P j) :: x_tbl
theorem x_w_inv {k j : Nat} {as rest : List xV} {lst : List xS} (hOK : x_OK cl P) (hS : ∀ n', n' ≤ k → x_Snd P D cl B0 sc l n') (ctx : x_Ctx P B0 p R s mid args meth c m fs.length) (hd40 : fs.length ≤ 40) (hscr : m = 0 → x_Scr B0 sc ρ0 s)
    (hend : ∀ (n' pc : Nat) (L : List (Nat × xV)) (st : List xV) (cc ss : Nat) (h : List xC) (E : xE) (i : Instr) (len : Nat), n' ≤ k + 1 → x_code P m pc = some (i, len) → x_isRet i → x_run P n' ((m, pc, L, st, cc, ss) :: fs, h, E) = true → x_OKs p l e R s mid args below meth c Q D cl B0 sc (x_maxL P m) ρ0 ad0 pc L st cc ss h E)
    (hm : x_okm P j) (hpush : x_push P m pc L cc ss fs h E j as rest = some lst) (hall : ∀ S' ∈ lst, x_run P k S' = true)
    (row : ∀ {ρ : List Int} {ad : List Nat} {H : Heap} {locs : List Loc} {ls : Array Slot} {stc : List Value}, fs.length < 40 → x_maxL P j ≤ 60 → cc + x_mc P j ≤ R.cells ∧ ss + x_ms P j ≤ R.slots → (rest.map x_cat).sum ≤ 8 → ls.size = x_maxL P m → x_vals ρ ad sc st stc → x_rel D cl B0 sc s ρ ad h E H locs →
      ∃ av restc : List Value, x_vals ρ ad sc as av ∧ x_vals ρ ad sc rest restc ∧ ∀ Qc : Array Value → State → Outcome → State → Prop, Met l (x_nm P j) (x_ws P j) (x_rm P fs.length j) (va_Pc av (fun U => B0 ≤ U.heap.size ∧ (∀ w ∈ x_nest, va_Nw w U) ∧ x_B D cl B0 sc ρ ad h U)) Qc (x_mc P j) (x_ms P j) (fun q : Nat => B0 ≤ q) →
        va_Run p l e R s mid args below meth c H locs cc ss (x_mc P j) (x_ms P j) (F0 mid pc ls stc) restc (Qc av.toArray) (fun q : Nat => B0 ≤ q)) :
    x_OKs p l e R s mid args below meth c Q D cl B0 sc (x_maxL P m) ρ0 ad0 pc L st cc ss h E := by
  unfold x_push at hpush
  split at hpush
  next hc =>
    cases hpush
    obtain ⟨c1, c2, c3, c4, c5, c6⟩ := hc
    intro ρ ad H locs ls stc e1 e2 hr hfr
    obtain ⟨lv, h1, h2, h3⟩ := hfr
    have hR3 := ctx.2.2.2.2.2.2.2.2.2.2.2.2.1
    have hR4 := ctx.2.2.2.2.2.2.2.2.2.2.2.2.2
    obtain ⟨av, restc, g1, g2, g3⟩ := row c3 c4 ⟨by omega, by omega⟩ c6 h1.1 h3 hr
    have hrun1 := hall _ (List.mem_singleton.mpr rfl)
    have M := x_met (f := (m, pc + 3, L, rest, cc + x_mc P j, ss + x_ms P j)) hOK (hS k (Nat.le_refl _)) hm (rfl : fs.length = fs.length) c3 hrun1 g1 hr.env c5
    have hr0 := hr
    obtain ⟨ws, tys, aK, aP, aD, aS, aH, aE⟩ := hr
    refine x_go_call (g3 _ M) aS (fun n' vo xo ρ' ad' h' E' H1 locs1 hn hv he1 he2 hrel hrun' => ?_)
    refine hS n' (by omega) m (pc + 3) L (vo.toList ++ rest) (cc + x_mc P j) (ss + x_ms P j) fs h' E' hrun' p e R s mid args below meth c Q ρ0 ad0 ctx hd40 hscr (fun n2 pc2 L2 st2 cc2 ss2 h2 E2 i2 len2 hn2 => hend n2 pc2 L2 st2 cc2 ss2 h2 E2 i2 len2 (by omega)) ρ' ad' H1 locs1 ls (xo.toList ++ restc) (e1.tr he1) (e2.tr he2) hrel ⟨lv, h1, h2.mono he1 he2, ?_⟩
    have g2' := g2.mono he1 he2
    cases vo with
    | none =>
      cases xo with
      | none => exact g2'
      | some x => exact hv.elim
    | some v =>
      cases xo with
      | none => exact hv.elim
      | some x => exact ⟨hv, g2'⟩
  next => cases hpush
theorem x_room {d j : Nat} (hd : d < 40) (hj : x_maxL P j ≤ 60) (h1 : 50 - d ≤ R.frames) (h2 : 100 * (50 - d) ≤ R.locals) : (x_rm P d j).frames + 1 ≤ R.frames ∧ 8 + (x_maxL P j + 11) + (x_rm P d j).locals ≤ R.locals := by
  refine ⟨?_, ?_⟩
  · show 50 - (d + 1) + 1 ≤ R.frames
    omega
  · show 8 + (x_maxL P j + 11) + 100 * (50 - (d + 1)) ≤ R.locals
    omega
theorem x_w_invV {k idx : Nat} {lst : List xS} (hOK : x_OK cl P) (hS : ∀ n', n' ≤ k → x_Snd P D cl B0 sc l n') (ctx : x_Ctx P B0 p R s mid args meth c m fs.length) (hd40 : fs.length ≤ 40) (hscr : m = 0 → x_Scr B0 sc ρ0 s)
    (hend : ∀ (n' pc : Nat) (L : List (Nat × xV)) (st : List xV) (cc ss : Nat) (h : List xC) (E : xE) (i : Instr) (len : Nat), n' ≤ k + 1 → x_code P m pc = some (i, len) → x_isRet i → x_run P n' ((m, pc, L, st, cc, ss) :: fs, h, E) = true → x_OKs p l e R s mid args below meth c Q D cl B0 sc (x_maxL P m) ρ0 ad0 pc L st cc ss h E)
    (hdec : decode (x_by P m) pc = .ok (.invokevirtual idx, 3)) (hinv : x_invV P m pc L st cc ss fs h E idx = some lst) (hall : ∀ S' ∈ lst, x_run P k S' = true) :
    x_OKs p l e R s mid args below meth c Q D cl B0 sc (x_maxL P m) ρ0 ad0 pc L st cc ss h E := by
  have hpool := hOK.2.2.1 m idx
  unfold x_invV at hinv
  split at hinv
  next j n hp =>
    rw [hp] at hpool
    obtain ⟨hm, ha, q1, q2, q3, C, q4, q5⟩ := hpool
    split at hinv
    next b kk rest hdrop =>
      split at hinv
      next ci fl hcell =>
        split at hinv
        next hci =>
          refine x_w_inv hOK hS ctx hd40 hscr hend hm hinv hall ?_
          intro ρ ad H locs ls stc d1 d2 d3 d4 d5 h3 hr
          have t1 := h3.take n.toNat
          have t2 := h3.drop n.toNat
          rw [hdrop] at t2
          obtain ⟨x, restc, t3, t4, t5⟩ := t2.cons
          obtain ⟨a, rfl, t6⟩ := t4
          have hstc : stc = stc.take n.toNat ++ .ref a :: restc := by rw [← t3, List.take_append_drop]
          have hlen : (stc.take n.toNat).length = n.toNat := by rw [← t1.len]; exact hci.2
          refine ⟨.ref a :: (stc.take n.toNat).reverse, restc, ⟨⟨a, rfl, t6⟩, t1.rev⟩, t5, fun Qc M => ?_⟩
          have hr0 := hr
          obtain ⟨ws, tys, aK, aP, aD, aS, aH, aE⟩ := hr
          obtain ⟨ev, w1, w2⟩ := aH.at hcell t6
          obtain ⟨xs, rfl, w3⟩ := w2
          obtain ⟨hx, hb, hrt, hml, hown, hts, hnest, hlocks, hnm, hB, hR1, hR2, hR3, hR4⟩ := ctx
          have hcl : cl[ci]? = some C := by rw [hci.1]; exact q4
          have hrec := va_recv aK aP hcl w1
          rw [q5] at hrec
          refine va_runV (C := (x_nm P j).cls) (n := n.toNat) (As := (stc.take n.toNat).reverse) ⟨hx, hb, hml, hown, hts⟩ M
            ⟨callB_of n.toNat hts (x_goodIn hm.1) rfl rfl rfl (hts _ hm.2.1) (hts _ q1) ⟨hm.2.2.2.1.1, hm.2.2.2.1.2, ha⟩ (x_room d1 d2 hR1 hR2), hts _ q2, hts _ q3⟩
            ⟨x_blind, hrec, fun U hU hW => ⟨rfl, x_B_of hr0 hB hnest U hU hW⟩⟩ rfl (by rw [List.length_reverse]; exact hlen) d5 (by show stc = _; rw [List.reverse_reverse]; exact hstc) (lv_room (by rw [x_cats t5]; exact d4)) hdec d3
        next => cases hinv
      next => cases hinv
    next => cases hinv
  next => cases hinv
theorem x_w_invS {k idx : Nat} {lst : List xS} (hOK : x_OK cl P) (hS : ∀ n', n' ≤ k → x_Snd P D cl B0 sc l n') (ctx : x_Ctx P B0 p R s mid args meth c m fs.length) (hd40 : fs.length ≤ 40) (hscr : m = 0 → x_Scr B0 sc ρ0 s)
    (hend : ∀ (n' pc : Nat) (L : List (Nat × xV)) (st : List xV) (cc ss : Nat) (h : List xC) (E : xE) (i : Instr) (len : Nat), n' ≤ k + 1 → x_code P m pc = some (i, len) → x_isRet i → x_run P n' ((m, pc, L, st, cc, ss) :: fs, h, E) = true → x_OKs p l e R s mid args below meth c Q D cl B0 sc (x_maxL P m) ρ0 ad0 pc L st cc ss h E)
    (nx : ∀ (pc' : Nat) (L' : List (Nat × xV)) (st' : List xV) (cc' ss' : Nat) (h' : List xC) (E' : xE), ((m, pc', L', st', cc', ss') :: fs, h', E') ∈ lst → x_OKs p l e R s mid args below meth c Q D cl B0 sc (x_maxL P m) ρ0 ad0 pc' L' st' cc' ss' h' E')
    (hdec : decode (x_by P m) pc = .ok (.invokestatic idx, 3)) (hinv : x_invS P m pc L st cc ss fs h E idx = some lst) (hall : ∀ S' ∈ lst, x_run P k S' = true) :
    x_OKs p l e R s mid args below meth c Q D cl B0 sc (x_maxL P m) ρ0 ad0 pc L st cc ss h E := by
  have hpool := hOK.2.2.1 m idx
  unfold x_invS at hinv
  split at hinv
  next j n hp =>
    rw [hp] at hpool
    obtain ⟨hm, ha, q1, q2⟩ := hpool
    split at hinv
    next hci =>
      refine x_w_inv hOK hS ctx hd40 hscr hend hm hinv hall ?_
      intro ρ ad H locs ls stc d1 d2 d3 d4 d5 h3 hr
      have t1 := h3.take n.toNat
      have t2 := h3.drop n.toNat
      have hlen : (stc.take n.toNat).length = n.toNat := by rw [← t1.len]; exact hci
      refine ⟨(stc.take n.toNat).reverse, stc.drop n.toNat, t1.rev, t2, fun Qc M => ?_⟩
      obtain ⟨hx, hb, hrt, hml, hown, hts, hnest, hlocks, hnm, hB, hR1, hR2, hR3, hR4⟩ := ctx
      refine va_runS (n := n.toNat) (As := (stc.take n.toNat).reverse) ⟨hx, hb, hml, hown, hts⟩ M
        ⟨callB_of n.toNat hts (x_goodIn hm.1) rfl rfl rfl (hts _ hm.2.1) (hts _ q1) ⟨hm.2.2.2.1.1, hm.2.2.2.1.2, ha⟩ (x_room d1 d2 hR1 hR2), hts _ q2⟩
        ⟨x_blind, fun U hU hW => ⟨rfl, x_B_of hr hB hnest U hU hW⟩⟩ rfl (by rw [List.length_reverse]; exact hlen) d5 (by show stc = _; rw [List.reverse_reverse, List.take_append_drop]) (lv_room (by rw [x_cats t2]; exact d4)) hdec d3
    next => cases hinv
  next z1 z2 hp =>
    rw [hp] at hpool
    obtain ⟨hx, hb, hrt, hml, hown, hts, hnest, hlocks, hnm, hB, hR1, hR2, hR3, hR4⟩ := ctx
    unfold x_cpy at hinv
    split at hinv
    next nn dp b1 kd sp b2 ks r =>
      split at hinv
      next n0 lo0 hi0 n1 lo1 hi1 e1 e2 =>
        split at hinv
        next hc =>
          cases hinv
          exact x_w_cpy hx hb hml hown hts hpool hdec (by omega) (by omega) e1 e2 hc.1 hc.2.1 hc.2.2.1 hc.2.2.2.1 hc.2.2.2.2.1 hc.2.2.2.2.2 (nx _ _ _ _ _ _ _ (List.mem_singleton.mpr rfl))
        next => cases hinv
      next => cases hinv
    next => cases hinv
  next z1 z2 hp =>
    rw [hp] at hpool
    obtain ⟨q1, q2, q3, q4⟩ := hpool
    obtain ⟨hx, hb, hrt, hml, hown, hts, hnest, hlocks, hnm, hB, hR1, hR2, hR3, hR4⟩ := ctx
    unfold x_mm at hinv
    split at hinv
    next w v r =>
      split at hinv
      next hc =>
        cases hinv
        exact x_w_mm x_mn (fun x y => if y < x then y else x) (fun h1 h2 h3 => x_mn_ok h1 h2 h3) (fun hl hs k => va_mmin hx hb (by rw [hml]; exact hl.symm) hown (hts _ q1) (hts _ q2) (hts _ q3) (hts _ q4) (by omega) (by omega) (by omega) (by omega) hdec k) hc.1 hc.2.1 hc.2.2.1 (nx _ _ _ _ _ _ _ (List.mem_singleton.mpr rfl))
      next => cases hinv
    next => cases hinv
  next z1 z2 hp =>
    rw [hp] at hpool
    obtain ⟨q1, q2, q3, q4⟩ := hpool
    obtain ⟨hx, hb, hrt, hml, hown, hts, hnest, hlocks, hnm, hB, hR1, hR2, hR3, hR4⟩ := ctx
    unfold x_mm at hinv
    split at hinv
    next w v r =>
      split at hinv
      next hc =>
        cases hinv
        exact x_w_mm x_mx (fun x y => if x < y then y else x) (fun h1 h2 h3 => x_mx_ok h1 h2 h3) (fun hl hs k => va_mmax hx hb (by rw [hml]; exact hl.symm) hown (hts _ q1) (hts _ q2) (hts _ q3) (hts _ q4) (by omega) (by omega) (by omega) (by omega) hdec k) hc.1 hc.2.1 hc.2.2.1 (nx _ _ _ _ _ _ _ (List.mem_singleton.mpr rfl))
      next => cases hinv
    next => cases hinv
  next => cases hinv
theorem x_w_invI {k idx : Nat} {lst : List xS} (hOK : x_OK cl P) (hS : ∀ n', n' ≤ k → x_Snd P D cl B0 sc l n') (ctx : x_Ctx P B0 p R s mid args meth c m fs.length) (hd40 : fs.length ≤ 40) (hscr : m = 0 → x_Scr B0 sc ρ0 s)
    (hend : ∀ (n' pc : Nat) (L : List (Nat × xV)) (st : List xV) (cc ss : Nat) (h : List xC) (E : xE) (i : Instr) (len : Nat), n' ≤ k + 1 → x_code P m pc = some (i, len) → x_isRet i → x_run P n' ((m, pc, L, st, cc, ss) :: fs, h, E) = true → x_OKs p l e R s mid args below meth c Q D cl B0 sc (x_maxL P m) ρ0 ad0 pc L st cc ss h E)
    (nx : ∀ (pc' : Nat) (L' : List (Nat × xV)) (st' : List xV) (cc' ss' : Nat) (h' : List xC) (E' : xE), ((m, pc', L', st', cc', ss') :: fs, h', E') ∈ lst → x_OKs p l e R s mid args below meth c Q D cl B0 sc (x_maxL P m) ρ0 ad0 pc' L' st' cc' ss' h' E')
    (hdec : decode (x_by P m) pc = .ok (.invokespecial idx, 3)) (hinv : x_invI P m pc L st cc ss fs h E idx = some lst) (hall : ∀ S' ∈ lst, x_run P k S' = true) :
    x_OKs p l e R s mid args below meth c Q D cl B0 sc (x_maxL P m) ρ0 ad0 pc L st cc ss h E := by
  have hpool := hOK.2.2.1 m idx
  unfold x_invI at hinv
  split at hinv
  next j n hp =>
    rw [hp] at hpool
    obtain ⟨hm, ha, q1, q2, q3, q4⟩ := hpool
    have q4 : x_rt P j = none := q4
    split at hinv
    next b kk rest hdrop =>
      split at hinv
      next hci =>
        refine x_w_inv hOK hS ctx hd40 hscr hend hm hinv hall ?_
        intro ρ ad H locs ls stc d1 d2 d3 d4 d5 h3 hr
        have t1 := h3.take n.toNat
        have t2 := h3.drop n.toNat
        rw [hdrop] at t2
        obtain ⟨x, restc, t3, t4, t5⟩ := t2.cons
        obtain ⟨a, rfl, t6⟩ := t4
        have hstc : stc = stc.take n.toNat ++ .ref a :: restc := by rw [← t3, List.take_append_drop]
        have hlen : (stc.take n.toNat).length = n.toNat := by rw [← t1.len]; exact hci
        refine ⟨.ref a :: (stc.take n.toNat).reverse, restc, ⟨⟨a, rfl, t6⟩, t1.rev⟩, t5, fun Qc M => ?_⟩
        obtain ⟨hx, hb, hrt, hml, hown, hts, hnest, hlocks, hnm, hB, hR1, hR2, hR3, hR4⟩ := ctx
        refine va_runI (n := n.toNat) (As := (stc.take n.toNat).reverse) ⟨hx, hb, hml, hown, hts⟩ M
          ⟨callB_of n.toNat hts (x_goodIn hm.1) (by unfold x_ws; rw [q4]) rfl rfl (hts _ hm.2.1) (hts _ q1) ⟨hm.2.2.2.1.1, hm.2.2.2.1.2, ha⟩ (x_room d1 d2 hR1 hR2), q3, hts _ q2⟩
          ⟨x_blind, fun U hU hW => ⟨rfl, x_B_of hr hB hnest U hU hW⟩⟩ rfl (by rw [List.length_reverse]; exact hlen) d5 (by show stc = _; rw [List.reverse_reverse]; exact hstc) (lv_room (by rw [x_cats t5]; exact d4)) hdec d3
      next => cases hinv
    next => cases hinv
  next j n hp =>
    rw [hp] at hpool
    obtain ⟨hm, ha, ⟨host, q1⟩, q2, q3, q4⟩ := hpool
    have q4 : x_rt P j = none := q4
    split at hinv
    next b kk rest hdrop =>
      split at hinv
      next hci =>
        refine x_w_inv hOK hS ctx hd40 hscr hend hm hinv hall ?_
        intro ρ ad H locs ls stc d1 d2 d3 d4 d5 h3 hr
        have t1 := h3.take n.toNat
        have t2 := h3.drop n.toNat
        rw [hdrop] at t2
        obtain ⟨x, restc, t3, t4, t5⟩ := t2.cons
        obtain ⟨a, rfl, t6⟩ := t4
        have hstc : stc = stc.take n.toNat ++ .ref a :: restc := by rw [← t3, List.take_append_drop]
        have hlen : (stc.take n.toNat).length = n.toNat := by rw [← t1.len]; exact hci
        refine ⟨.ref a :: (stc.take n.toNat).reverse, restc, ⟨⟨a, rfl, t6⟩, t1.rev⟩, t5, fun Qc M => ?_⟩
        obtain ⟨hx, hb, hrt, hml, hown, hts, hnest, hlocks, hnm, hB, hR1, hR2, hR3, hR4⟩ := ctx
        refine va_runIN (n := n.toNat) (As := (stc.take n.toNat).reverse) ⟨hx, hb, hml, hown, hts⟩ M
          ⟨va_cnB n.toNat hts (x_goodIn hm.1) (by unfold x_ws; rw [q4]) rfl rfl (hnest _ q1) (hts _ hm.2.1) ⟨hm.2.2.2.1.1, hm.2.2.2.1.2, ha⟩ (x_room d1 d2 hR1 hR2), q3, hts _ q2⟩
          ⟨x_blind, fun U hU hW => ⟨rfl, x_B_of hr hB hnest U hU hW⟩⟩ rfl (by rw [List.length_reverse]; exact hlen) d5 (by show stc = _; rw [List.reverse_reverse]; exact hstc) (lv_room (by rw [x_cats t5]; exact d4)) hdec d3
      next => cases hinv
    next => cases hinv
  next z1 z2 hp =>
    rw [hp] at hpool
    obtain ⟨hx, hb, hrt, hml, hown, hts, hnest, hlocks, hnm, hB, hR1, hR2, hR3, hR4⟩ := ctx
    split at hinv
    next b kk r =>
      split at hinv
      next hc =>
        cases hinv
        exact x_w_oinit hx hb hml hown hts hpool hdec (by omega) (by omega) hc (nx _ _ _ _ _ _ _ (List.mem_singleton.mpr rfl))
      next => cases hinv
    next => cases hinv
  next => cases hinv
end XI
