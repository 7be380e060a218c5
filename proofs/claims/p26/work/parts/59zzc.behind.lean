theorem g_87 {xs : Nat → Int} {Ln d : Nat} {T : List cK} {M : cM} (hT : TT T) (hI : Rng M) {t : Nat} (ht : t = 8 ∨ t = 25) (h70 : M 7 0 = ((t : Nat) : Int)) {person room state : Int} {D S : cM} (hC : CR D S t M) {w : Int → Int} (hL : STL w M) (p0 : 0 ≤ person ∧ person ≤ 7) (p1 : 0 ≤ room ∧ room ≤ 7) (p2 : 0 ≤ state ∧ state ≤ 255) (p3 : person < D 0 1) (p4 : state < pPr (cAs w) 8) : cC k_P xs Ln (d + 2) 87 [rf 54, rf 7, (0, person), (0, room), (0, state)] (T, M) (qF T M 0 (fun v => (-1) ≤ v ∧ v ≤ 255 ∧ (v = yN (cAs w) (cIx w) (pFr D S w) person room state ∧ (v = -1 ∨ v < pPr (cAs w) 8)))) := by
  show cP k_P xs Ln (d + 2) 87 0 [(0, rf 54), (1, rf 7), (2, (0, person)), (3, (0, room)), (4, (0, state))] [] (T, M) _
  have hD := hC.2.1
  have hDr := hD.rg
  have hSW := hC.2.2.2.2
  refine s_aload_n kx_87_0 rfl ?_
  refine r_getR (k := 54) (f := 1) (k2 := 56) kx_87_1 kp_87_15 (tk_54 hT) kf_6_1 (by decide) (rq_54_1 hI) ?_
  refine s_iload_n kx_87_4 rfl ?_
  refine r_aldU (k := 56) kx_87_5 (tk_56 hT) ⟨by omega, by omega⟩ (fun v1 v1e => ?_)
  have v1w : (if w room = -1 then 0 else pPr (cAs w) (room).toNat) = v1 := (hL.1 room (by omega) (by omega)).2.symm.trans v1e
  have hp1 := pPr_pos (a := cAs w) cAs_ge room.toNat
  have hwr := hL.2.2.2 room
  refine s_if_eq (t := 23) kx_87_6 (by decide) (fun hc2 => ?_) (fun hc2 => ?_)
  · refine s_iload kx_87_23 rfl ?_
    exact s_iret kx_87_25 (Or.inl kq_87) ⟨_, rfl, rfl, ⟨by omega, by omega, (yN_free (Or.inl (by by_cases g : w room = -1; exact g; rw [if_neg g] at v1w; omega))).symm, Or.inr (by omega)⟩⟩
  · have hwt : 0 ≤ w room := by by_cases g : w room = -1; (rw [if_pos g] at v1w; omega); omega
    rw [if_neg (show ¬ w room = -1 by omega)] at v1w
    refine s_aload_n kx_87_9 rfl ?_
    refine s_iload_n kx_87_10 rfl ?_
    refine s_iload_n kx_87_11 rfl ?_
    refine s_aload_n kx_87_12 rfl ?_
    refine s_iload_n kx_87_13 rfl ?_
    refine s_callV2 (k := 7) (s1 := 2) (s2 := 3) (as := [(0, person)]) (rest := [(0, room), (0, person), rf 7]) kx_87_14 kp_87_70 (Or.inl rfl) rfl (tk_7 hT) ki_44 kcl_44 rfl rfl (by decide) (g_44 (d := d + 1) (chair := person) hT hI ht h70 hC (by omega) (by omega)) (kF (fun v3 v3p => ?_))
    refine s_callV2 (k := 7) (s1 := 4) (s2 := 0) (as := [(0, v3), (0, room), (0, person)]) (rest := []) kx_87_17 kp_87_135 (Or.inl rfl) rfl (tk_7 hT) ki_59 kcl_59 rfl rfl (by decide) (g_59 (d := d) (person := person) (room := room) (own := v3) hT hI ht h70 hC (by omega) (by omega)) (kF (fun v4 v4p => ?_))
    refine s_if_eq (t := 26) kx_87_20 (by decide) (fun hc5 => ?_) (fun hc5 => ?_)
    · replace v4p := v4p.resolve_left (by omega)
      refine s_iload kx_87_26 rfl ?_
      refine s_aload_n kx_87_28 rfl ?_
      refine r_getR (k := 54) (f := 1) (k2 := 56) kx_87_29 kp_87_15 (tk_54 hT) kf_6_1 (by decide) (rq_54_1 hI) ?_
      refine s_iload_n kx_87_32 rfl ?_
      refine r_aldK (k := 56) kx_87_33 (tk_56 hT) ⟨by omega, by omega⟩ v1e ?_
      obtain ⟨q_, q1_, hq_⟩ := pPr_dvd (rdxC hL.2.2.2).1 (show room.toNat < 8 by omega)
      have hcw := (told_ix (w := w) (r := room) ⟨by omega, by omega⟩ hwt).2
      rw [show ((room.toNat : Nat) : Int) = room by omega, hcw, Int.add_comm 1 (w room)] at hq_
      have hd3 := mixle (S := pPr (cAs w) 8) (p := v1) (w := w room) (q := q_) (by omega) (by omega) (by omega) (by rw [show v1 = pPr (cAs w) room.toNat by omega]; exact hq_)
      have hd6 := hL.2.2.1
      have hd1 := Int.ediv_nonneg (show 0 ≤ state by omega) (show 0 ≤ v1 by omega)
      have hd2 := Int.ediv_le_self v1 (show 0 ≤ state by omega)
      refine r_idiv kx_87_34 (by omega) (by omega) (by omega) (by omega) ?_
      refine s_aload_n kx_87_35 rfl ?_
      refine r_getR (k := 54) (f := 0) (k2 := 55) kx_87_36 kp_87_9 (tk_54 hT) kf_6_0 (by decide) (rq_54_0 hI) ?_
      refine s_iload_n kx_87_39 rfl ?_
      refine r_ald (k := 55) kx_87_40 (tk_55 hT) ⟨by omega, by omega⟩ (rg_55 hI) (fun v6 v6e v6a v6b => ?_)
      have v6w : w room = v6 := (hL.1 room (by omega) (by omega)).1.symm.trans v6e
      refine s_iconst (v := 1) kx_87_41 (by decide) ?_
      refine r_add kx_87_42 ⟨by omega, by omega⟩ ?_
      refine r_irem kx_87_43 (by omega) (by omega) (by omega) (by omega) ?_
      refine s_istore kx_87_44 km_87_5 rfl ?_
      refine s_iload kx_87_46 rfl ?_
      refine s_aload_n kx_87_48 rfl ?_
      refine r_getR (k := 54) (f := 0) (k2 := 55) kx_87_49 kp_87_9 (tk_54 hT) kf_6_0 (by decide) (rq_54_0 hI) ?_
      refine s_iload_n kx_87_52 rfl ?_
      refine r_aldK (k := 55) kx_87_53 (tk_55 hT) ⟨by omega, by omega⟩ v6e ?_
      refine s_icmp_ge (t := 69) kx_87_54 (by decide) (fun hc7 => ?_) (fun hc7 => ?_)
      · refine s_iconst (v := (-1)) kx_87_69 (by decide) ?_
        exact s_iret kx_87_70 (Or.inl kq_87) ⟨_, rfl, rfl, ⟨by omega, by omega, by rw [yN_told ⟨by omega, by omega⟩ hwt (by have h8 := v3p.2.2.1; rw [← h8]; omega), v1w, v6w, if_neg (by omega)], Or.inl rfl⟩⟩
      · refine s_iload kx_87_57 rfl ?_
        refine s_aload_n kx_87_59 rfl ?_
        refine r_getR (k := 54) (f := 1) (k2 := 56) kx_87_60 kp_87_15 (tk_54 hT) kf_6_1 (by decide) (rq_54_1 hI) ?_
        refine s_iload_n kx_87_63 rfl ?_
        refine r_aldK (k := 56) kx_87_64 (tk_56 hT) ⟨by omega, by omega⟩ v1e ?_
        have hmx := mixrad (s := state) (S := pPr (cAs w) 8) (p := v1) (w := v6) (q := q_) (by omega) (by omega) (by omega) (by omega) (by rw [show v1 = pPr (cAs w) room.toNat by omega, show v6 = w room by omega]; exact hq_) (by omega)
        refine r_add kx_87_65 ⟨by omega, by omega⟩ ?_
        refine s_goto (t := 70) kx_87_66 (by decide) ?_
        exact s_iret kx_87_70 (Or.inl kq_87) ⟨_, rfl, rfl, ⟨by omega, by omega, by rw [yN_told ⟨by omega, by omega⟩ hwt (by have h8 := v3p.2.2.1; rw [← h8]; omega), v1w, v6w, if_pos (by omega)], Or.inr (by omega)⟩⟩
    · replace v4p := v4p.resolve_right (by omega)
      refine s_iload kx_87_23 rfl ?_
      exact s_iret kx_87_25 (Or.inl kq_87) ⟨_, rfl, rfl, ⟨by omega, by omega, (yN_free (Or.inr (by have h8 := v3p.2.2.1; rw [← h8]; omega))).symm, Or.inr (by omega)⟩⟩
