theorem x_swI_mem {m pc : Nat} {L : List (Nat × xV)} {cc ss : Nat} {fs : List xF} {h : List xC} {E : xE} {v : xV} {r : List xV} {lo : Int} {off : Int} {S : xS} : ∀ {offs : List Int} {k i : Nat}, offs[i]? = some off → x_can .eq (x_iv E v) (lo + (k + i : Nat), lo + (k + i : Nat)) = true → S = x_at m cc ss fs h ((pc : Int) + off).toNat L r (x_cap E v (lo + (k + i : Nat)) (lo + (k + i : Nat))) → S ∈ x_swI m pc L cc ss fs h E v r lo k offs
  | [], _, i, h1, _, _ => by simp at h1
  | o :: offs, k, 0, h1, h2, h3 => by
    have h1 : o = off := by simpa using h1
    subst h1
    unfold x_swI
    rw [Nat.add_zero] at h2 h3
    rw [if_pos h2]
    exact List.mem_append_left _ (List.mem_singleton.mpr h3)
  | o :: offs, k, i + 1, h1, h2, h3 => by
    unfold x_swI
    refine List.mem_append_right _ (x_swI_mem (k := k + 1) (i := i) (by simpa using h1) ?_ ?_)
    · rw [show k + 1 + i = k + (i + 1) by omega]; exact h2
    · rw [show k + 1 + i = k + (i + 1) by omega]; exact h3
/-- a constructor's own class -/
theorem x_own {cl : List vw_C} {P : xP} {m idx ci : Nat} {f : Int} {C : vw_C} (hOK : x_OK cl P) (hp : x_okp cl P (x_nm P m).cls idx (1, ci, f)) (hC : cl[ci]? = some C) (h1 : (x_nm P m).name = "<init>") (h2 : x_mci P m = ci) : C.1 = (x_nm P m).cls := hOK.2.2.2.2.2.2 m C h1 (by rw [h2]; exact hC)
/-! the induction over the steps -/
theorem x_len {len n : Nat} (h : (len == n) = true) : len = n := by simpa using h
set_option maxHeartbeats 4000000 in
theorem x_snd {P : xP} {D : va_G} {cl : List vw_C} {B0 sc : Nat} {l : Launch} (hOK : x_OK cl P) : ∀ n, x_Snd P D cl B0 sc l n := by
  intro n
  induction n using Nat.strongRecOn with
  | _ n ih =>
  intro m pc L st cc ss fs h E hrun p e R s mid args below meth c Q ρ0 ad0 ctx hd40 hscr hend
  cases n with
  | zero => cases hrun
  | succ k =>
  obtain ⟨lst, hstep, hall⟩ := x_run_ok hrun
  have hctx := ctx
  obtain ⟨hx, hb, hrt, hml, hown, hts, hnest, hlocks, hnm, hB, hR1, hR2, hR3, hR4⟩ := ctx
  cases hcode : x_code P m pc with
  | none => simp [x_step, hcode] at hstep
  | some q =>
  obtain ⟨i, len⟩ := q
  have hins : x_ins P m pc L st cc ss fs h E i len = some lst := by
    have : x_step P ((m, pc, L, st, cc, ss) :: fs, h, E) = x_ins P m pc L st cc ss fs h E i len := by simp only [x_step, hcode]
    rw [← this]
    exact hstep
  have hd := hOK.1 m pc i len hcode
  have hS : ∀ n', n' ≤ k → x_Snd P D cl B0 sc l n' := fun n' hn => ih n' (by omega)
  have nx : ∀ (pc' : Nat) (L' : List (Nat × xV)) (st' : List xV) (cc' ss' : Nat) (h' : List xC) (E' : xE), ((m, pc', L', st', cc', ss') :: fs, h', E') ∈ lst → x_OKs p l e R s mid args below meth c Q D cl B0 sc (x_maxL P m) ρ0 ad0 pc' L' st' cc' ss' h' E' :=
    fun pc' L' st' cc' ss' h' E' hm => hS k (Nat.le_refl _) m pc' L' st' cc' ss' fs h' E' (hall _ hm) p e R s mid args below meth c Q ρ0 ad0 hctx hd40 hscr (fun n2 pc2 L2 st2 cc2 ss2 h2 E2 i2 len2 hn2 => hend n2 pc2 L2 st2 cc2 ss2 h2 E2 i2 len2 (by omega))
  clear hstep ih
  cases i
  case iconst z =>
    obtain ⟨b1, b2⟩ := x_if_ok (show x_if (len == 1) (x_push1 m pc L st cc ss fs h E 1 (0, none, (Int32.ofInt z).toInt)) = some lst from hins)
    cases x_len b1
    cases b2
    exact x_w_push (n := 1) (v := (0, none, (Int32.ofInt z).toInt)) (fun k => lv_iconst hx hb hd rfl k) (fun _ _ => ⟨_, rfl, rfl⟩) (nx _ _ _ _ _ _ _ (List.mem_singleton.mpr rfl))
  case bipush z =>
    obtain ⟨b1, b2⟩ := x_if_ok (show x_if (len == 2) (x_push1 m pc L st cc ss fs h E 2 (0, none, (Int8.ofInt z).toInt32.toInt)) = some lst from hins)
    cases x_len b1
    cases b2
    exact x_w_push (n := 2) (v := (0, none, (Int8.ofInt z).toInt32.toInt)) (fun k => lv_bipush hx hb hd rfl k) (fun _ _ => ⟨_, rfl, rfl⟩) (nx _ _ _ _ _ _ _ (List.mem_singleton.mpr rfl))
  case sipush z =>
    obtain ⟨b1, b2⟩ := x_if_ok (show x_if (len == 3) (x_push1 m pc L st cc ss fs h E 3 (0, none, (Int16.ofInt z).toInt32.toInt)) = some lst from hins)
    cases x_len b1
    cases b2
    exact x_w_push (n := 3) (v := (0, none, (Int16.ofInt z).toInt32.toInt)) (fun k => lv_sipush hx hb hd rfl k) (fun _ _ => ⟨_, rfl, rfl⟩) (nx _ _ _ _ _ _ _ (List.mem_singleton.mpr rfl))
  case lconst z =>
    obtain ⟨b1, b2⟩ := x_if_ok (show x_if (len == 1) (x_push1 m pc L st cc ss fs h E 1 (1, none, (Int64.ofNat (z : Nat)).toInt)) = some lst from hins)
    cases x_len b1
    cases b2
    exact x_w_push (n := 1) (v := (1, none, (Int64.ofNat (z : Nat)).toInt)) (fun k => lv_lconst hx hb hd rfl k) (fun _ _ => ⟨_, rfl, rfl⟩) (nx _ _ _ _ _ _ _ (List.mem_singleton.mpr rfl))
  case ldc idx =>
    obtain ⟨b1, b2⟩ := x_if_ok (show x_if (len == 2) (match x_pool P m idx with | (7, _, c) => x_push1 m pc L st cc ss fs h E 2 (0, none, c) | _ => none) = some lst from hins)
    cases x_len b1
    have hpool := hOK.2.2.1 m idx
    split at b2
    · next z1 z2 hp =>
        rw [hp] at hpool
        obtain ⟨v, q1, q2⟩ := hpool
        cases b2
        exact x_w_push (n := 2) (v := (0, none, z2)) (fun k => lv_ldc hx hb hown (hts _ q1) hd k) (fun _ _ => ⟨v, rfl, q2⟩) (nx _ _ _ _ _ _ _ (List.mem_singleton.mpr rfl))
    · cases b2
  case ldc_w idx =>
    obtain ⟨b1, b2⟩ := x_if_ok (show x_if (len == 3) (match x_pool P m idx with | (7, _, c) => x_push1 m pc L st cc ss fs h E 3 (0, none, c) | _ => none) = some lst from hins)
    cases x_len b1
    have hpool := hOK.2.2.1 m idx
    split at b2
    · next z1 z2 hp =>
        rw [hp] at hpool
        obtain ⟨v, q1, q2⟩ := hpool
        cases b2
        exact x_w_push (n := 3) (v := (0, none, z2)) (fun k => lv_ldcw hx hb hown (hts _ q1) hd k) (fun _ _ => ⟨v, rfl, q2⟩) (nx _ _ _ _ _ _ _ (List.mem_singleton.mpr rfl))
    · cases b2
  case ldc2_w idx =>
    obtain ⟨b1, b2⟩ := x_if_ok (show x_if (len == 3) (match x_pool P m idx with | (8, _, c) => x_push1 m pc L st cc ss fs h E 3 (1, none, c) | _ => none) = some lst from hins)
    cases x_len b1
    have hpool := hOK.2.2.1 m idx
    split at b2
    · next z1 z2 hp =>
        rw [hp] at hpool
        obtain ⟨v, q1, q2⟩ := hpool
        cases b2
        exact x_w_push (n := 3) (v := (1, none, z2)) (fun k => lv_ldc2 hx hb hown (hts _ q1) hd k) (fun _ _ => ⟨v, rfl, q2⟩) (nx _ _ _ _ _ _ _ (List.mem_singleton.mpr rfl))
    · cases b2
  case iload z =>
    obtain ⟨b1, b2⟩ := x_if_ok (show x_if (len == 2) (x_ld m pc L st cc ss fs h E 2 0 z) = some lst from hins)
    cases x_len b1
    unfold x_ld at b2
    split at b2
    · next v hv =>
        split at b2
        · next ht =>
            cases b2
            refine x_w_load (n := 2) hv (fun {x ρ ad H locs ls rest} g hl k => ?_) (nx _ _ _ _ _ _ _ (List.mem_singleton.mpr rfl))
            obtain ⟨a, rfl, -⟩ := g.int ht
            exact lv_iload hx hb hd hl k
        · cases b2
    · cases b2
  case iload_n z =>
    obtain ⟨b1, b2⟩ := x_if_ok (show x_if (len == 1) (x_ld m pc L st cc ss fs h E 1 0 (z : Nat)) = some lst from hins)
    cases x_len b1
    unfold x_ld at b2
    split at b2
    · next v hv =>
        split at b2
        · next ht =>
            cases b2
            refine x_w_load (n := 1) hv (fun {x ρ ad H locs ls rest} g hl k => ?_) (nx _ _ _ _ _ _ _ (List.mem_singleton.mpr rfl))
            obtain ⟨a, rfl, -⟩ := g.int ht
            exact lv_iload_n hx hb hd rfl hl k
        · cases b2
    · cases b2
  case lload z =>
    obtain ⟨b1, b2⟩ := x_if_ok (show x_if (len == 2) (x_ld m pc L st cc ss fs h E 2 1 z) = some lst from hins)
    cases x_len b1
    unfold x_ld at b2
    split at b2
    · next v hv =>
        split at b2
        · next ht =>
            cases b2
            refine x_w_load (n := 2) hv (fun {x ρ ad H locs ls rest} g hl k => ?_) (nx _ _ _ _ _ _ _ (List.mem_singleton.mpr rfl))
            obtain ⟨a, rfl, -⟩ := g.long ht
            exact lv_lload hx hb hd hl k
        · cases b2
    · cases b2
  case lload_n z =>
    obtain ⟨b1, b2⟩ := x_if_ok (show x_if (len == 1) (x_ld m pc L st cc ss fs h E 1 1 (z : Nat)) = some lst from hins)
    cases x_len b1
    unfold x_ld at b2
    split at b2
    · next v hv =>
        split at b2
        · next ht =>
            cases b2
            refine x_w_load (n := 1) hv (fun {x ρ ad H locs ls rest} g hl k => ?_) (nx _ _ _ _ _ _ _ (List.mem_singleton.mpr rfl))
            obtain ⟨a, rfl, -⟩ := g.long ht
            exact lv_lload_n hx hb hd rfl hl k
        · cases b2
    · cases b2
  case aload z =>
    obtain ⟨b1, b2⟩ := x_if_ok (show x_if (len == 2) (x_lda m pc L st cc ss fs h E 2 z) = some lst from hins)
    cases x_len b1
    unfold x_lda at b2
    split at b2
    · next v hv =>
        split at b2
        · next ht =>
            cases b2
            refine x_w_load (n := 2) hv (fun {x ρ ad H locs ls rest} g hl k => ?_) (nx _ _ _ _ _ _ _ (List.mem_singleton.mpr rfl))
            have hx9 : ∃ a, x = .ref a := by
              obtain ⟨t9, b9, c9⟩ := v
              rcases ht with ht | ht
              · have ht : t9 = 3 := ht
                subst ht
                obtain ⟨a, g1, -⟩ := g
                exact ⟨a, g1⟩
              · have ht : t9 = 4 := ht
                subst ht
                exact ⟨sc, g⟩
            obtain ⟨a, rfl⟩ := hx9
            exact lv_aload hx hb hd hl k
        · cases b2
    · cases b2
  case aload_n z =>
    obtain ⟨b1, b2⟩ := x_if_ok (show x_if (len == 1) (x_lda m pc L st cc ss fs h E 1 (z : Nat)) = some lst from hins)
    cases x_len b1
    unfold x_lda at b2
    split at b2
    · next v hv =>
        split at b2
        · next ht =>
            cases b2
            refine x_w_load (n := 1) hv (fun {x ρ ad H locs ls rest} g hl k => ?_) (nx _ _ _ _ _ _ _ (List.mem_singleton.mpr rfl))
            have hx9 : ∃ a, x = .ref a := by
              obtain ⟨t9, b9, c9⟩ := v
              rcases ht with ht | ht
              · have ht : t9 = 3 := ht
                subst ht
                obtain ⟨a, g1, -⟩ := g
                exact ⟨a, g1⟩
              · have ht : t9 = 4 := ht
                subst ht
                exact ⟨sc, g⟩
            obtain ⟨a, rfl⟩ := hx9
            exact lv_aload_n hx hb hd rfl hl k
        · cases b2
    · cases b2
  case istore z =>
    obtain ⟨b1, b2⟩ := x_if_ok (show x_if (len == 2) (x_st P m pc L st cc ss fs h E 2 z) = some lst from hins)
    cases x_len b1
    cases st with
    | nil => cases b2
    | cons v r =>
      unfold x_st at b2
      dsimp only at b2
      split at b2
      · next ht =>
          cases b2
          refine x_w_store1 (n := 2) (i := z) (fun {x ρ ad H locs ls rest lv lv'} g hl hl2 k => ?_) (nx _ _ _ _ _ _ _ (List.mem_singleton.mpr rfl))
          obtain ⟨a, rfl, -⟩ := g.int ht.1
          exact lv_istore hx hb hd hl ht.2 hl2 k
      · cases b2
  case istore_n z =>
    obtain ⟨b1, b2⟩ := x_if_ok (show x_if (len == 1) (x_st P m pc L st cc ss fs h E 1 (z : Nat)) = some lst from hins)
    cases x_len b1
    cases st with
    | nil => cases b2
    | cons v r =>
      unfold x_st at b2
      dsimp only at b2
      split at b2
      · next ht =>
          cases b2
          refine x_w_store1 (n := 1) (i := (z : Nat)) (fun {x ρ ad H locs ls rest lv lv'} g hl hl2 k => ?_) (nx _ _ _ _ _ _ _ (List.mem_singleton.mpr rfl))
          obtain ⟨a, rfl, -⟩ := g.int ht.1
          exact lv_istore_n hx hb hd rfl hl ht.2 hl2 k
      · cases b2
  case lstore z =>
    obtain ⟨b1, b2⟩ := x_if_ok (show x_if (len == 2) (x_stL P m pc L st cc ss fs h E 2 z) = some lst from hins)
    cases x_len b1
    cases st with
    | nil => cases b2
    | cons v r =>
      unfold x_stL at b2
      dsimp only at b2
      split at b2
      · next ht =>
          cases b2
          refine x_w_store2 (n := 2) (i := z) (fun {x ρ ad H locs ls rest lv lv'} g hl hl2 k => ?_) (nx _ _ _ _ _ _ _ (List.mem_singleton.mpr rfl))
          obtain ⟨a, rfl, -⟩ := g.long ht.1
          exact lv_lstore hx hb hd hl ht.2 hl2 k
      · cases b2
  case lstore_n z =>
    obtain ⟨b1, b2⟩ := x_if_ok (show x_if (len == 1) (x_stL P m pc L st cc ss fs h E 1 (z : Nat)) = some lst from hins)
    cases x_len b1
    cases st with
    | nil => cases b2
    | cons v r =>
      unfold x_stL at b2
      dsimp only at b2
      split at b2
      · next ht =>
          cases b2
          refine x_w_store2 (n := 1) (i := (z : Nat)) (fun {x ρ ad H locs ls rest lv lv'} g hl hl2 k => ?_) (nx _ _ _ _ _ _ _ (List.mem_singleton.mpr rfl))
          obtain ⟨a, rfl, -⟩ := g.long ht.1
          exact lv_lstore_n hx hb hd rfl hl ht.2 hl2 k
      · cases b2
  case astore z =>
    obtain ⟨b1, b2⟩ := x_if_ok (show x_if (len == 2) (x_stA P m pc L st cc ss fs h E 2 z) = some lst from hins)
    cases x_len b1
    cases st with
    | nil => cases b2
    | cons v r =>
      unfold x_stA at b2
      dsimp only at b2
      split at b2
      · next ht =>
          cases b2
          refine x_w_store1 (n := 2) (i := z) (fun {x ρ ad H locs ls rest lv lv'} g hl hl2 k => ?_) (nx _ _ _ _ _ _ _ (List.mem_singleton.mpr rfl))
          obtain ⟨a, rfl, -⟩ := g.ref ht.1
          exact lv_astore hx hb hd hl ht.2 hl2 k
      · cases b2
  case astore_n z =>
    obtain ⟨b1, b2⟩ := x_if_ok (show x_if (len == 1) (x_stA P m pc L st cc ss fs h E 1 (z : Nat)) = some lst from hins)
    cases x_len b1
    cases st with
    | nil => cases b2
    | cons v r =>
      unfold x_stA at b2
      dsimp only at b2
      split at b2
      · next ht =>
          cases b2
          refine x_w_store1 (n := 1) (i := (z : Nat)) (fun {x ρ ad H locs ls rest lv lv'} g hl hl2 k => ?_) (nx _ _ _ _ _ _ _ (List.mem_singleton.mpr rfl))
          obtain ⟨a, rfl, -⟩ := g.ref ht.1
          exact lv_astore_n hx hb hd rfl hl ht.2 hl2 k
      · cases b2
  case iinc z zc =>
    obtain ⟨b1, b2⟩ := x_if_ok (show x_if (len == 3) (match x_find L z with | some v => if v.1 = 0 ∧ z < x_maxL P m then some [x_at m cc ss fs h (pc + 3) (x_put1 L z (x_addc E v (Int32.ofInt zc).toInt).1) st (x_addc E v (Int32.ofInt zc).toInt).2] else none | none => none) = some lst from hins)
    cases x_len b1
    split at b2
    · next v hv =>
        split at b2
        · next ht =>
            cases b2
            exact x_w_iinc hx hb hd hv ht.1 ht.2 (nx _ _ _ _ _ _ _ (List.mem_singleton.mpr rfl))
        · cases b2
    · cases b2
  case iadd =>
    obtain ⟨b1, b2⟩ := x_if_ok (show x_if (len == 1) (x_op2 m pc L st cc ss fs h E x_add) = some lst from hins)
    cases x_len b1
    unfold x_op2 at b2
    split at b2
    · next w v r =>
        split at b2
        · next ht =>
            cases b2
            exact x_w_op2 x_add (· + ·) (fun h1 h2 h3 => x_add_ok h1 h2 h3) (fun _ _ k => lv_iadd hx hb hd k) ht.1 ht.2 (nx _ _ _ _ _ _ _ (List.mem_singleton.mpr rfl))
        · cases b2
    · cases b2
  case isub =>
    obtain ⟨b1, b2⟩ := x_if_ok (show x_if (len == 1) (x_op2 m pc L st cc ss fs h E x_sub) = some lst from hins)
    cases x_len b1
    unfold x_op2 at b2
    split at b2
    · next w v r =>
        split at b2
        · next ht =>
            cases b2
            exact x_w_op2 x_sub (· - ·) (fun h1 h2 h3 => x_sub_ok h1 h2 h3) (fun _ _ k => lv_isub hx hb hd k) ht.1 ht.2 (nx _ _ _ _ _ _ _ (List.mem_singleton.mpr rfl))
        · cases b2
    · cases b2
  case imul =>
    obtain ⟨b1, b2⟩ := x_if_ok (show x_if (len == 1) (x_op2 m pc L st cc ss fs h E (x_bin (· * ·))) = some lst from hins)
    cases x_len b1
    unfold x_op2 at b2
    split at b2
    · next w v r =>
        split at b2
        · next ht =>
            cases b2
            exact x_w_op2 (x_bin (· * ·)) (· * ·) (fun h1 h2 h3 => x_bin_ok (· * ·) h1 h2 h3) (fun _ _ k => lv_imul hx hb hd k) ht.1 ht.2 (nx _ _ _ _ _ _ _ (List.mem_singleton.mpr rfl))
        · cases b2
    · cases b2
  case iand =>
    obtain ⟨b1, b2⟩ := x_if_ok (show x_if (len == 1) (x_op2 m pc L st cc ss fs h E (x_bin (· &&& ·))) = some lst from hins)
    cases x_len b1
    unfold x_op2 at b2
    split at b2
    · next w v r =>
        split at b2
        · next ht =>
            cases b2
            exact x_w_op2 (x_bin (· &&& ·)) (· &&& ·) (fun h1 h2 h3 => x_bin_ok (· &&& ·) h1 h2 h3) (fun _ _ k => lv_iand hx hb hd k) ht.1 ht.2 (nx _ _ _ _ _ _ _ (List.mem_singleton.mpr rfl))
        · cases b2
    · cases b2
  case ior =>
    obtain ⟨b1, b2⟩ := x_if_ok (show x_if (len == 1) (x_op2 m pc L st cc ss fs h E (x_bin (· ||| ·))) = some lst from hins)
    cases x_len b1
    unfold x_op2 at b2
    split at b2
    · next w v r =>
        split at b2
        · next ht =>
            cases b2
            exact x_w_op2 (x_bin (· ||| ·)) (· ||| ·) (fun h1 h2 h3 => x_bin_ok (· ||| ·) h1 h2 h3) (fun _ _ k => lv_ior hx hb hd k) ht.1 ht.2 (nx _ _ _ _ _ _ _ (List.mem_singleton.mpr rfl))
        · cases b2
    · cases b2
  case ixor =>
    obtain ⟨b1, b2⟩ := x_if_ok (show x_if (len == 1) (x_op2 m pc L st cc ss fs h E (x_bin (· ^^^ ·))) = some lst from hins)
    cases x_len b1
    unfold x_op2 at b2
    split at b2
    · next w v r =>
        split at b2
        · next ht =>
            cases b2
            exact x_w_op2 (x_bin (· ^^^ ·)) (· ^^^ ·) (fun h1 h2 h3 => x_bin_ok (· ^^^ ·) h1 h2 h3) (fun _ _ k => lv_ixor hx hb hd k) ht.1 ht.2 (nx _ _ _ _ _ _ _ (List.mem_singleton.mpr rfl))
        · cases b2
    · cases b2
  case ishl =>
    obtain ⟨b1, b2⟩ := x_if_ok (show x_if (len == 1) (x_op2 m pc L st cc ss fs h E (x_bin (fun x y => x <<< (y &&& 31)))) = some lst from hins)
    cases x_len b1
    unfold x_op2 at b2
    split at b2
    · next w v r =>
        split at b2
        · next ht =>
            cases b2
            exact x_w_op2 (x_bin (fun x y => x <<< (y &&& 31))) (fun x y => x <<< (y &&& 31)) (fun h1 h2 h3 => x_bin_ok (fun x y => x <<< (y &&& 31)) h1 h2 h3) (fun _ _ k => lv_ishl hx hb hd k) ht.1 ht.2 (nx _ _ _ _ _ _ _ (List.mem_singleton.mpr rfl))
        · cases b2
    · cases b2
  case ishr =>
    obtain ⟨b1, b2⟩ := x_if_ok (show x_if (len == 1) (x_op2 m pc L st cc ss fs h E (x_bin (fun x y => x >>> (y &&& 31)))) = some lst from hins)
    cases x_len b1
    unfold x_op2 at b2
    split at b2
    · next w v r =>
        split at b2
        · next ht =>
            cases b2
            exact x_w_op2 (x_bin (fun x y => x >>> (y &&& 31))) (fun x y => x >>> (y &&& 31)) (fun h1 h2 h3 => x_bin_ok (fun x y => x >>> (y &&& 31)) h1 h2 h3) (fun _ _ k => lv_ishr hx hb hd k) ht.1 ht.2 (nx _ _ _ _ _ _ _ (List.mem_singleton.mpr rfl))
        · cases b2
    · cases b2
  case iushr =>
    obtain ⟨b1, b2⟩ := x_if_ok (show x_if (len == 1) (x_op2 m pc L st cc ss fs h E (x_bin (fun x y => (x.toUInt32 >>> (y.toUInt32 &&& Int32.toUInt32 31)).toInt32))) = some lst from hins)
    cases x_len b1
    unfold x_op2 at b2
    split at b2
    · next w v r =>
        split at b2
        · next ht =>
            cases b2
            exact x_w_op2 (x_bin (fun x y => (x.toUInt32 >>> (y.toUInt32 &&& Int32.toUInt32 31)).toInt32)) (fun x y => (x.toUInt32 >>> (y.toUInt32 &&& Int32.toUInt32 31)).toInt32) (fun h1 h2 h3 => x_bin_ok (fun x y => (x.toUInt32 >>> (y.toUInt32 &&& Int32.toUInt32 31)).toInt32) h1 h2 h3) (fun _ _ k => lv_iushr hx hb hd rfl k) ht.1 ht.2 (nx _ _ _ _ _ _ _ (List.mem_singleton.mpr rfl))
        · cases b2
    · cases b2
  case idiv =>
    obtain ⟨b1, b2⟩ := x_if_ok (show x_if (len == 1) (x_div m pc L st cc ss fs h E (x_bin (· / ·))) = some lst from hins)
    cases x_len b1
    unfold x_div at b2
    split at b2
    · next w v r =>
        split at b2
        · next ht =>
            cases b2
            exact x_w_op2 (x_bin (· / ·)) (· / ·) (fun h1 h2 h3 => x_bin_ok (· / ·) h1 h2 h3) (fun he hy k => lv_idiv hx hb hd (fun z => x_nz_ok he hy ht.2.2 (by rw [z]; rfl)) k) ht.1 ht.2.1 (nx _ _ _ _ _ _ _ (List.mem_singleton.mpr rfl))
        · cases b2
    · cases b2
  case irem =>
    obtain ⟨b1, b2⟩ := x_if_ok (show x_if (len == 1) (x_div m pc L st cc ss fs h E (x_bin (fun x y => x - x / y * y))) = some lst from hins)
    cases x_len b1
    unfold x_div at b2
    split at b2
    · next w v r =>
        split at b2
        · next ht =>
            cases b2
            exact x_w_op2 (x_bin (fun x y => x - x / y * y)) (fun x y => x - x / y * y) (fun h1 h2 h3 => x_bin_ok (fun x y => x - x / y * y) h1 h2 h3) (fun he hy k => lv_irem hx hb hd (fun z => x_nz_ok he hy ht.2.2 (by rw [z]; rfl)) k) ht.1 ht.2.1 (nx _ _ _ _ _ _ _ (List.mem_singleton.mpr rfl))
        · cases b2
    · cases b2
  case ldiv =>
    obtain ⟨b1, b2⟩ := x_if_ok (show x_if (len == 1) (x_divL m pc L st cc ss fs h E (x_binL (· / ·))) = some lst from hins)
    cases x_len b1
    unfold x_divL at b2
    split at b2
    · next w v r =>
        split at b2
        · next ht =>
            cases b2
            exact x_w_opL (x_binL (· / ·)) (· / ·) (fun h1 h2 h3 => x_binL_ok (· / ·) h1 h2 h3) (fun he hy k => lv_ldiv hx hb hd (fun z => x_nz_ok he hy ht.2.2 (by rw [z]; rfl)) k) ht.1 ht.2.1 (nx _ _ _ _ _ _ _ (List.mem_singleton.mpr rfl))
        · cases b2
    · cases b2
  case lrem =>
    obtain ⟨b1, b2⟩ := x_if_ok (show x_if (len == 1) (x_divL m pc L st cc ss fs h E (x_binL (fun x y => x - x / y * y))) = some lst from hins)
    cases x_len b1
    unfold x_divL at b2
    split at b2
    · next w v r =>
        split at b2
        · next ht =>
            cases b2
            exact x_w_opL (x_binL (fun x y => x - x / y * y)) (fun x y => x - x / y * y) (fun h1 h2 h3 => x_binL_ok (fun x y => x - x / y * y) h1 h2 h3) (fun he hy k => lv_lrem hx hb hd (fun z => x_nz_ok he hy ht.2.2 (by rw [z]; rfl)) k) ht.1 ht.2.1 (nx _ _ _ _ _ _ _ (List.mem_singleton.mpr rfl))
        · cases b2
    · cases b2
  case ladd =>
    obtain ⟨b1, b2⟩ := x_if_ok (show x_if (len == 1) (x_opL m pc L st cc ss fs h E (x_binL (· + ·))) = some lst from hins)
    cases x_len b1
    unfold x_opL at b2
    split at b2
    · next w v r =>
        split at b2
        · next ht =>
            cases b2
            exact x_w_opL (x_binL (· + ·)) (· + ·) (fun h1 h2 h3 => x_binL_ok (· + ·) h1 h2 h3) (fun _ _ k => lv_ladd hx hb hd k) ht.1 ht.2 (nx _ _ _ _ _ _ _ (List.mem_singleton.mpr rfl))
        · cases b2
    · cases b2
  case lsub =>
    obtain ⟨b1, b2⟩ := x_if_ok (show x_if (len == 1) (x_opL m pc L st cc ss fs h E (x_binL (· - ·))) = some lst from hins)
    cases x_len b1
    unfold x_opL at b2
    split at b2
    · next w v r =>
        split at b2
        · next ht =>
            cases b2
            exact x_w_opL (x_binL (· - ·)) (· - ·) (fun h1 h2 h3 => x_binL_ok (· - ·) h1 h2 h3) (fun _ _ k => lv_lsub hx hb hd k) ht.1 ht.2 (nx _ _ _ _ _ _ _ (List.mem_singleton.mpr rfl))
        · cases b2
    · cases b2
  case lmul =>
    obtain ⟨b1, b2⟩ := x_if_ok (show x_if (len == 1) (x_opL m pc L st cc ss fs h E (x_binL (· * ·))) = some lst from hins)
    cases x_len b1
    unfold x_opL at b2
    split at b2
    · next w v r =>
        split at b2
        · next ht =>
            cases b2
            exact x_w_opL (x_binL (· * ·)) (· * ·) (fun h1 h2 h3 => x_binL_ok (· * ·) h1 h2 h3) (fun _ _ k => lv_lmul hx hb hd k) ht.1 ht.2 (nx _ _ _ _ _ _ _ (List.mem_singleton.mpr rfl))
        · cases b2
    · cases b2
  case land =>
    obtain ⟨b1, b2⟩ := x_if_ok (show x_if (len == 1) (x_opL m pc L st cc ss fs h E (x_binL (· &&& ·))) = some lst from hins)
    cases x_len b1
    unfold x_opL at b2
    split at b2
    · next w v r =>
        split at b2
        · next ht =>
            cases b2
            exact x_w_opL (x_binL (· &&& ·)) (· &&& ·) (fun h1 h2 h3 => x_binL_ok (· &&& ·) h1 h2 h3) (fun _ _ k => lv_land hx hb hd k) ht.1 ht.2 (nx _ _ _ _ _ _ _ (List.mem_singleton.mpr rfl))
        · cases b2
    · cases b2
  case lor =>
    obtain ⟨b1, b2⟩ := x_if_ok (show x_if (len == 1) (x_opL m pc L st cc ss fs h E (x_binL (· ||| ·))) = some lst from hins)
    cases x_len b1
    unfold x_opL at b2
    split at b2
    · next w v r =>
        split at b2
        · next ht =>
            cases b2
            exact x_w_opL (x_binL (· ||| ·)) (· ||| ·) (fun h1 h2 h3 => x_binL_ok (· ||| ·) h1 h2 h3) (fun _ _ k => lv_lor hx hb hd k) ht.1 ht.2 (nx _ _ _ _ _ _ _ (List.mem_singleton.mpr rfl))
        · cases b2
    · cases b2
  case lcmp =>
    obtain ⟨b1, b2⟩ := x_if_ok (show x_if (len == 1) (x_opL m pc L st cc ss fs h E x_cmpL) = some lst from hins)
    cases x_len b1
    unfold x_opL at b2
    split at b2
    · next w v r =>
        split at b2
        · next ht =>
            cases b2
            exact x_w_lcmp hx hb hd ht.1 ht.2 (nx _ _ _ _ _ _ _ (List.mem_singleton.mpr rfl))
        · cases b2
    · cases b2
  case lshl =>
    obtain ⟨b1, b2⟩ := x_if_ok (show x_if (len == 1) (x_opS m pc L st cc ss fs h E (x_shL (fun x y => x <<< (y.toInt64 &&& 63)))) = some lst from hins)
    cases x_len b1
    unfold x_opS at b2
    split at b2
    · next w v r =>
        split at b2
        · next ht =>
            cases b2
            exact x_w_opS (x_shL (fun x y => x <<< (y.toInt64 &&& 63))) (fun x y => x <<< (y.toInt64 &&& 63)) (fun h1 h2 h3 => x_shL_ok (fun x y => x <<< (y.toInt64 &&& 63)) h1 h2 h3) (fun k => lv_lshl hx hb hd rfl k) ht.1 ht.2 (nx _ _ _ _ _ _ _ (List.mem_singleton.mpr rfl))
        · cases b2
    · cases b2
  case lshr =>
    obtain ⟨b1, b2⟩ := x_if_ok (show x_if (len == 1) (x_opS m pc L st cc ss fs h E (x_shL (fun x y => x >>> (y.toInt64 &&& 63)))) = some lst from hins)
    cases x_len b1
    unfold x_opS at b2
    split at b2
    · next w v r =>
        split at b2
        · next ht =>
            cases b2
            exact x_w_opS (x_shL (fun x y => x >>> (y.toInt64 &&& 63))) (fun x y => x >>> (y.toInt64 &&& 63)) (fun h1 h2 h3 => x_shL_ok (fun x y => x >>> (y.toInt64 &&& 63)) h1 h2 h3) (fun k => lv_lshr hx hb hd rfl k) ht.1 ht.2 (nx _ _ _ _ _ _ _ (List.mem_singleton.mpr rfl))
        · cases b2
    · cases b2
  case i2l =>
    obtain ⟨b1, b2⟩ := x_if_ok (show x_if (len == 1) (match (generalizing := false) st with | v :: r => if v.1 = 0 then some [x_at m cc ss fs h (pc + 1) L ((1, v.2) :: r) E] else none | [] => none) = some lst from hins)
    cases x_len b1
    split at b2
    · next v r =>
        split at b2
        · next ht =>
            cases b2
            exact x_w_i2l hx hb hd ht (nx _ _ _ _ _ _ _ (List.mem_singleton.mpr rfl))
        · cases b2
    · cases b2
  case l2i =>
    obtain ⟨b1, b2⟩ := x_if_ok (show x_if (len == 1) (match (generalizing := false) st with | v :: r => if v.1 = 1 then some [x_at m cc ss fs h (pc + 1) L ((x_l2i E v).1 :: r) (x_l2i E v).2] else none | [] => none) = some lst from hins)
    cases x_len b1
    split at b2
    · next v r =>
        split at b2
        · next ht =>
            cases b2
            exact x_w_l2i hx hb hd ht (nx _ _ _ _ _ _ _ (List.mem_singleton.mpr rfl))
        · cases b2
    · cases b2
  case dup =>
    obtain ⟨b1, b2⟩ := x_if_ok (show x_if (len == 1) (match (generalizing := false) st with | v :: r => if x_cat v = 1 then some [x_at m cc ss fs h (pc + 1) L (v :: v :: r) E] else none | [] => none) = some lst from hins)
    cases x_len b1
    split at b2
    · next v r =>
        split at b2
        · next ht =>
            cases b2
            exact x_w_dup hx hb hd ht (nx _ _ _ _ _ _ _ (List.mem_singleton.mpr rfl))
        · cases b2
    · cases b2
  case pop =>
    obtain ⟨b1, b2⟩ := x_if_ok (show x_if (len == 1) (match (generalizing := false) st with | v :: r => if x_cat v = 1 then some [x_at m cc ss fs h (pc + 1) L r E] else none | [] => none) = some lst from hins)
    cases x_len b1
    split at b2
    · next v r =>
        split at b2
        · next ht =>
            cases b2
            exact x_w_pop hx hb hd ht (nx _ _ _ _ _ _ _ (List.mem_singleton.mpr rfl))
        · cases b2
    · cases b2
  case dup2 =>
    obtain ⟨b1, b2⟩ := x_if_ok (show x_if (len == 1) (match (generalizing := false) st with | v :: w :: r => if x_cat v = 1 ∧ x_cat w = 1 then some [x_at m cc ss fs h (pc + 1) L (v :: w :: v :: w :: r) E] else none | _ => none) = some lst from hins)
    cases x_len b1
    split at b2
    · next v w r =>
        split at b2
        · next ht =>
            cases b2
            exact x_w_dup2 hx hb hd ht.1 ht.2 (nx _ _ _ _ _ _ _ (List.mem_singleton.mpr rfl))
        · cases b2
    · cases b2
  case ifCond cn off =>
    obtain ⟨b1, b2⟩ := x_if_ok (show x_if (len == 3) (match (generalizing := false) st with | v :: r => x_br m pc L cc ss fs h E cn v (0, none, 0) r off | [] => none) = some lst from hins)
    cases x_len b1
    split at b2
    · next v r =>
        unfold x_br at b2
        split at b2
        · next ht =>
            cases b2
            exact x_w_ifc hx hb hd ht.2.2 ht.1 (fun E9 hm => nx _ _ _ _ _ _ _ (List.mem_append_left _ (List.mem_map.mpr ⟨E9, hm, rfl⟩))) (fun E9 hm => nx _ _ _ _ _ _ _ (List.mem_append_right _ (List.mem_map.mpr ⟨E9, hm, rfl⟩)))
        · cases b2
    · cases b2
  case if_icmp cn off =>
    obtain ⟨b1, b2⟩ := x_if_ok (show x_if (len == 3) (match (generalizing := false) st with | w :: v :: r => x_br m pc L cc ss fs h E cn v w r off | _ => none) = some lst from hins)
    cases x_len b1
    split at b2
    · next w v r =>
        unfold x_br at b2
        split at b2
        · next ht =>
            cases b2
            exact x_w_icmp hx hb hd ht.2.2 ht.1 ht.2.1 (fun E9 hm => nx _ _ _ _ _ _ _ (List.mem_append_left _ (List.mem_map.mpr ⟨E9, hm, rfl⟩))) (fun E9 hm => nx _ _ _ _ _ _ _ (List.mem_append_right _ (List.mem_map.mpr ⟨E9, hm, rfl⟩)))
        · cases b2
    · cases b2
  case goto off =>
    obtain ⟨b1, b2⟩ := x_if_ok (show x_if (len == 3) (if 0 ≤ (pc : Int) + off then some [x_at m cc ss fs h ((pc : Int) + off).toNat L st E] else none) = some lst from hins)
    cases x_len b1
    split at b2
    · next ht =>
        cases b2
        exact x_w_goto hx hb hd ht (nx _ _ _ _ _ _ _ (List.mem_singleton.mpr rfl))
    · cases b2
  case tableswitch dflt lo hi offs =>
    have b2 : (match (generalizing := false) st with | v :: r => x_sw m pc L cc ss fs h E v r dflt lo hi offs.toList | [] => none) = some lst := hins
    split at b2
    · next v r =>
        unfold x_sw at b2
        split at b2
        · next ht =>
            cases b2
            refine x_w_sw hx hb hd ht.1 ht.2.1 (fun o ho => by simpa using List.all_eq_true.mp ht.2.2.1 o ho) ht.2.2.2 (fun hc => nx _ _ _ _ _ _ _ (List.mem_append_left _ (List.mem_append_left _ (by rw [if_pos hc]; exact List.mem_singleton.mpr rfl)))) (fun hc => nx _ _ _ _ _ _ _ (List.mem_append_left _ (List.mem_append_right _ (by rw [if_pos hc]; exact List.mem_singleton.mpr rfl)))) (fun k9 off hk hc => nx _ _ _ _ _ _ _ (List.mem_append_right _ (x_swI_mem (k := 0) hk (by rw [Nat.zero_add]; exact hc) (by rw [Nat.zero_add]; rfl))))
        · cases b2
    · cases b2
  case getfield idx =>
    obtain ⟨b1, b2⟩ := x_if_ok (show x_if (len == 3) (x_getf P m pc L st cc ss fs h E idx) = some lst from hins)
    cases x_len b1
    unfold x_getf at b2
    split at b2
    · next b9 k9 r =>
        split at b2
        · next ci f ci2 vs hp ho =>
            split at b2
            · next hc =>
                subst hc
                split at b2
                · next v hv =>
                    cases b2
                    have hpool := hOK.2.2.1 m idx
                    rw [hp] at hpool
                    exact x_w_get hx hb hown hts hOK.2.1 hpool hd ho hv (nx _ _ _ _ _ _ _ (List.mem_singleton.mpr rfl))
                · cases b2
            · cases b2
        · cases b2
    · cases b2
  case putfield idx =>
    obtain ⟨b1, b2⟩ := x_if_ok (show x_if (len == 3) (x_putf P m pc L st cc ss fs h E idx) = some lst from hins)
    cases x_len b1
    unfold x_putf at b2
    split at b2
    · next v b9 k9 r =>
        split at b2
        · next ci f ci2 vs hp ho =>
            split at b2
            · next hc =>
                obtain ⟨hc1, hc2⟩ := hc
                subst hc1
                split at b2
                · next kd hkd =>
                    split at b2
                    · next hf =>
                        cases b2
                        have hpool := hOK.2.2.1 m idx
                        rw [hp] at hpool
                        exact x_w_put hx hb hown hts hOK.2.1 hpool hd ho hc2 hkd hf.1 (hf.2.elim Or.inl (fun q => Or.inr ⟨hnm q.1, fun C hC => x_own hOK hpool hC q.1 q.2⟩)) (nx _ _ _ _ _ _ _ (List.mem_singleton.mpr rfl))
                    · cases b2
                · cases b2
            · cases b2
        · cases b2
    · cases b2
  case iaload =>
    obtain ⟨b1, b2⟩ := x_if_ok (show x_if (len == 1) (x_ald m pc L st cc ss fs h E 0 0) = some lst from hins)
    cases x_len b1
    unfold x_ald at b2
    split at b2
    · next i9 b9 k9 r =>
        split at b2
        · next a ho =>
            split at b2
            · next hc =>
                split at b2
                · next q hq =>
                    cases b2
                    exact x_w_ald hx hb hd hc.1 hc.2 ho (Or.inl ⟨rfl, rfl, hq⟩) (nx _ _ _ _ _ _ _ (List.mem_singleton.mpr rfl))
                · cases b2
            · cases b2
        · cases b2
    · next i9 b9 k9 r =>
        split at b2
        · next hc =>
            cases b2
            exact x_w_sld hx hb hd (hscr hc.2.1) hc.2.2.1 hc.2.2.2.1 hc.2.2.2.2.1 hc.2.2.2.2.2.1 hc.2.2.2.2.2.2 (nx _ _ _ _ _ _ _ (List.mem_singleton.mpr rfl))
        · cases b2
    · cases b2
  case laload =>
    obtain ⟨b1, b2⟩ := x_if_ok (show x_if (len == 1) (x_ald m pc L st cc ss fs h E 1 1) = some lst from hins)
    cases x_len b1
    unfold x_ald at b2
    split at b2
    · next i9 b9 k9 r =>
        split at b2
        · next a ho =>
            split at b2
            · next hc =>
                split at b2
                · next q hq =>
                    cases b2
                    exact x_w_ald hx hb hd hc.1 hc.2 ho (Or.inr (Or.inl ⟨rfl, rfl, hq⟩)) (nx _ _ _ _ _ _ _ (List.mem_singleton.mpr rfl))
                · cases b2
            · cases b2
        · cases b2
    · next i9 b9 k9 r =>
        split at b2
        · next hc =>
            cases b2
            exact absurd hc.1 (by decide)
        · cases b2
    · cases b2
  case baload =>
    obtain ⟨b1, b2⟩ := x_if_ok (show x_if (len == 1) (x_ald m pc L st cc ss fs h E 0 2) = some lst from hins)
    cases x_len b1
    unfold x_ald at b2
    split at b2
    · next i9 b9 k9 r =>
        split at b2
        · next a ho =>
            split at b2
            · next hc =>
                split at b2
                · next q hq =>
                    cases b2
                    exact x_w_ald hx hb hd hc.1 hc.2 ho (Or.inr (Or.inr ⟨rfl, rfl, hq⟩)) (nx _ _ _ _ _ _ _ (List.mem_singleton.mpr rfl))
                · cases b2
            · cases b2
        · cases b2
    · next i9 b9 k9 r =>
        split at b2
        · next hc =>
            cases b2
            exact absurd hc.1 (by decide)
        · cases b2
    · cases b2
  case iastore =>
    obtain ⟨b1, b2⟩ := x_if_ok (show x_if (len == 1) (x_ast m pc L st cc ss fs h E 0 0) = some lst from hins)
    cases x_len b1
    unfold x_ast at b2
    split at b2
    · next v i9 b9 k9 r =>
        split at b2
        · next a ho =>
            split at b2
            · next hc =>
                split at b2
                · next q hq =>
                    cases b2
                    exact x_w_ast hx hb hd hc.1 hc.2.2.1 ho (Or.inl ⟨rfl, rfl, hc.2.1, hq⟩) (nx _ _ _ _ _ _ _ (List.mem_singleton.mpr rfl))
                · cases b2
            · cases b2
        · cases b2
    · cases b2
  case lastore =>
    obtain ⟨b1, b2⟩ := x_if_ok (show x_if (len == 1) (x_ast m pc L st cc ss fs h E 1 1) = some lst from hins)
    cases x_len b1
    unfold x_ast at b2
    split at b2
    · next v i9 b9 k9 r =>
        split at b2
        · next a ho =>
            split at b2
            · next hc =>
                split at b2
                · next q hq =>
                    cases b2
                    exact x_w_ast hx hb hd hc.1 hc.2.2.1 ho (Or.inr (Or.inl ⟨rfl, rfl, hc.2.1, hq⟩)) (nx _ _ _ _ _ _ _ (List.mem_singleton.mpr rfl))
                · cases b2
            · cases b2
        · cases b2
    · cases b2
  case bastore =>
    obtain ⟨b1, b2⟩ := x_if_ok (show x_if (len == 1) (x_ast m pc L st cc ss fs h E 0 2) = some lst from hins)
    cases x_len b1
    unfold x_ast at b2
    split at b2
    · next v i9 b9 k9 r =>
        split at b2
        · next a ho =>
            split at b2
            · next hc =>
                split at b2
                · next q hq =>
                    cases b2
                    exact x_w_ast hx hb hd hc.1 hc.2.2.1 ho (Or.inr (Or.inr ⟨rfl, rfl, hc.2.1, hc.2.2.2 rfl, hq⟩)) (nx _ _ _ _ _ _ _ (List.mem_singleton.mpr rfl))
                · cases b2
            · cases b2
        · cases b2
    · cases b2
  case arraylength =>
    obtain ⟨b1, b2⟩ := x_if_ok (show x_if (len == 1) (x_alen m pc L st cc ss fs h E) = some lst from hins)
    cases x_len b1
    unfold x_alen at b2
    split at b2
    · next b9 k9 r =>
        split at b2
        · next a ho =>
            split at b2
            · next hc =>
                cases b2
                exact x_w_alen hx hb hd ho hc (nx _ _ _ _ _ _ _ (List.mem_singleton.mpr rfl))
            · cases b2
        · cases b2
    · next b9 k9 r =>
        split at b2
        · next hc =>
            cases b2
            exact x_w_slen hx hb hd (hscr hc) (nx _ _ _ _ _ _ _ (List.mem_singleton.mpr rfl))
        · cases b2
    · cases b2
  case newarray at9 =>
    obtain ⟨b1, b2⟩ := x_if_ok (show x_if (len == 2) (match (generalizing := false) at9 with | .int => x_newa P m pc L st cc ss fs h E 0 | .long => x_newa P m pc L st cc ss fs h E 1 | .boolean => x_newa P m pc L st cc ss fs h E 2 | _ => none) = some lst from hins)
    cases x_len b1
    have key : ∀ ty : Nat, (at9 = .int ∧ ty = 0 ∨ at9 = .long ∧ ty = 1 ∨ at9 = .boolean ∧ ty = 2) → x_newa P m pc L st cc ss fs h E ty = some lst → x_OKs p l e R s mid args below meth c Q D cl B0 sc (x_maxL P m) ρ0 ad0 pc L st cc ss h E := by
      intro ty hty b3
      unfold x_newa at b3
      split at b3
      · next n9 r =>
          split at b3
          · next hc =>
              cases b3
              exact x_w_newa hx hb hts hOK.2.2.2.1 hOK.2.2.2.2.1 hOK.2.2.2.2.2.1 hB hd hty hc.1 hc.2.1 (by omega) (by omega) (nx _ _ _ _ _ _ _ (List.mem_singleton.mpr rfl))
          · cases b3
      · cases b3
    cases at9 <;> first | exact key 0 (Or.inl ⟨rfl, rfl⟩) b2 | exact key 1 (Or.inr (Or.inl ⟨rfl, rfl⟩)) b2 | exact key 2 (Or.inr (Or.inr ⟨rfl, rfl⟩)) b2 | cases b2
  case new idx =>
    obtain ⟨b1, b2⟩ := x_if_ok (show x_if (len == 3) (x_new P m pc L st cc ss fs h E idx) = some lst from hins)
    cases x_len b1
    unfold x_new at b2
    split at b2
    · next ci z hp =>
        split at b2
        · next hc =>
            cases b2
            have hpool := hOK.2.2.1 m idx
            rw [hp] at hpool
            exact x_w_new hx hb hown hts hOK.2.1 hpool hB hd (by omega) (by omega) (nx _ _ _ _ _ _ _ (List.mem_singleton.mpr rfl))
        · cases b2
    · cases b2
  case invokevirtual idx =>
    obtain ⟨b1, b2⟩ := x_if_ok (show x_if (len == 3) (x_invV P m pc L st cc ss fs h E idx) = some lst from hins)
    cases x_len b1
    exact x_w_invV hOK hS hctx hd40 hscr hend hd b2 hall
  case invokespecial idx =>
    obtain ⟨b1, b2⟩ := x_if_ok (show x_if (len == 3) (x_invI P m pc L st cc ss fs h E idx) = some lst from hins)
    cases x_len b1
    exact x_w_invI hOK hS hctx hd40 hscr hend nx hd b2 hall
  case invokestatic idx =>
    obtain ⟨b1, b2⟩ := x_if_ok (show x_if (len == 3) (x_invS P m pc L st cc ss fs h E idx) = some lst from hins)
    cases x_len b1
    exact x_w_invS hOK hS hctx hd40 hscr hend nx hd b2 hall
  case ireturn => exact hend (k + 1) pc L st cc ss h E _ len (Nat.le_refl _) hcode (Or.inl rfl) hrun
  case lreturn => exact hend (k + 1) pc L st cc ss h E _ len (Nat.le_refl _) hcode (Or.inr (Or.inl rfl)) hrun
  case return_ => exact hend (k + 1) pc L st cc ss h E _ len (Nat.le_refl _) hcode (Or.inr (Or.inr rfl)) hrun
  all_goals exact absurd (show (none : Option (List xS)) = some lst from hins) (by simp)
