/-! the constructors: heaps as lists of updates, newest first -/
abbrev bU := List (Nat × Nat × Int)
def toM : bU → cM
  | [] => fun _ _ => 0
  | e :: U => if e.2.1 = 100000 then c_new (toM U) e.1 (fun f => c_dfl ((x_cls k_P e.2.2.toNat).getD f 0)) else if e.2.1 = 100001 then c_new (toM U) e.1 (fun _ => 0) else c_up (toM U) e.1 e.2.1 e.2.2
theorem bt_at {i k : Nat} {x : cK} (h : k_T0[k]? = some x) (hk : k < i) : (k_T0.take i)[k]? = some x := by
  rw [List.getElem?_take_of_lt hk]
  exact h
theorem bt_len {i : Nat} (h : i ≤ 114) : (k_T0.take i).length = i := by
  rw [List.length_take]
  have : k_T0.length = 114 := rfl
  omega
theorem bt_add {i : Nat} {x : cK} (h : k_T0[i]? = some x) : k_T0.take i ++ [x] = k_T0.take (i + 1) := by
  rw [List.take_succ, h]
  rfl
section BT
variable {P : xP} {xs : Nat → Int} {Ln d m pc : Nat} {L : List (Nat × cV)} {st : List cV} {T : List cK} {M M' : cM} {Q : Option cV → cH → Prop}
theorem b_newo {i idx ci : Nat} {z : Int} (hc : x_code P m pc = some (.new idx, 3)) (hp : x_pool P m idx = (9, ci, z)) (hi : k_T0[i]? = some (.inr ci)) (h4 : i ≤ 114) (hM : c_new M i (fun f => c_dfl ((x_cls P ci).getD f 0)) = M') (k : cP P xs Ln d m (pc + 3) L (rf i :: st) (k_T0.take (i + 1), M') Q) : cP P xs Ln d m pc L st (k_T0.take i, M) Q := by
  subst hM
  refine cP.step hc (q := (pc + 3, L, rf i :: st, (k_T0.take (i + 1), c_new M i (fun f => c_dfl ((x_cls P ci).getD f 0))))) ?_ k
  show c_if true (c_newo P m pc L st (k_T0.take i, M) idx) = _
  simp only [c_if, cond_true, c_newo, hp, bt_len h4, bt_add hi]
theorem c_newa_T {i ty : Nat} {v : Int} (hi : k_T0[i]? = some (.inl (ty, v.toNat))) (h4 : i ≤ 114) (h0 : 0 ≤ v ∧ v ≤ 60000000) : c_newa pc L ((0, v) :: st) (k_T0.take i, M) ty = some (.inl (pc + 2, L, rf i :: st, (k_T0.take (i + 1), c_new M i (fun _ => 0)))) := by
  show (if 0 ≤ v ∧ v ≤ 60000000 then (some (.inl (pc + 2, L, (3, ((k_T0.take i).length : Int)) :: st, (k_T0.take i ++ [.inl (ty, v.toNat)], c_new M (k_T0.take i).length (fun _ => 0)))) : Option cO) else none) = _
  rw [if_pos h0, bt_len h4, bt_add hi]
theorem b_newI {i : Nat} {v : Int} (hc : x_code P m pc = some (.newarray .int, 2)) (hi : k_T0[i]? = some (.inl (0, v.toNat))) (h4 : i ≤ 114) (h0 : 0 ≤ v ∧ v ≤ 60000000) (hM : c_new M i (fun _ => 0) = M') (k : cP P xs Ln d m (pc + 2) L (rf i :: st) (k_T0.take (i + 1), M') Q) : cP P xs Ln d m pc L ((0, v) :: st) (k_T0.take i, M) Q := by
  subst hM
  exact cP.step hc (q := (pc + 2, L, rf i :: st, (k_T0.take (i + 1), c_new M i (fun _ => 0)))) (c_newa_T hi h4 h0) k
theorem b_newJ {i : Nat} {v : Int} (hc : x_code P m pc = some (.newarray .long, 2)) (hi : k_T0[i]? = some (.inl (1, v.toNat))) (h4 : i ≤ 114) (h0 : 0 ≤ v ∧ v ≤ 60000000) (hM : c_new M i (fun _ => 0) = M') (k : cP P xs Ln d m (pc + 2) L (rf i :: st) (k_T0.take (i + 1), M') Q) : cP P xs Ln d m pc L ((0, v) :: st) (k_T0.take i, M) Q := by
  subst hM
  exact cP.step hc (q := (pc + 2, L, rf i :: st, (k_T0.take (i + 1), c_new M i (fun _ => 0)))) (c_newa_T hi h4 h0) k
theorem b_newZ {i : Nat} {v : Int} (hc : x_code P m pc = some (.newarray .boolean, 2)) (hi : k_T0[i]? = some (.inl (2, v.toNat))) (h4 : i ≤ 114) (h0 : 0 ≤ v ∧ v ≤ 60000000) (hM : c_new M i (fun _ => 0) = M') (k : cP P xs Ln d m (pc + 2) L (rf i :: st) (k_T0.take (i + 1), M') Q) : cP P xs Ln d m pc L ((0, v) :: st) (k_T0.take i, M) Q := by
  subst hM
  exact cP.step hc (q := (pc + 2, L, rf i :: st, (k_T0.take (i + 1), c_new M i (fun _ => 0)))) (c_newa_T hi h4 h0) k
theorem b_obj {idx a q : Nat} {b : Int} (hc : x_code P m pc = some (.invokespecial idx, 3)) (hp : x_pool P m idx = (5, a, b)) (h8 : (st.map c_cat).sum ≤ 8) (k : cP P xs Ln d m (pc + 3) L st (T, M) Q) : cP P xs Ln d m pc L (rf q :: st) (T, M) Q := by
  refine cP.step hc (q := (pc + 3, L, st, (T, M))) ?_ k
  show c_if true (c_invI P m pc L (rf q :: st) (T, M) idx) = _
  simp only [c_if, cond_true, c_invI, hp]
  exact if_pos h8
theorem b_callI {idx j q kn : Nat} {T1 : List cK} {M1 : cM} (hc : x_code P m pc = some (.invokespecial idx, 3)) (hp : x_pool P m idx = (kn, j, 0)) (hkn : kn = 3 ∨ kn = 4) (hm : x_maxL P j ≤ 60 ∧ 1 ≤ x_maxL P j) (h8 : (st.map c_cat).sum ≤ 8) (hR : cC P xs Ln d j [rf q] (T, M) (fun r h => r = none ∧ h = (T1, M1))) (kk : cP P xs Ln (d + 1) m (pc + 3) L st (T1, M1) Q) : cP P xs Ln (d + 1) m pc L (rf q :: st) (T, M) Q := by
  refine cP.call hc (j := j) (as := [rf q]) (rest := st) ?_ hR (fun r1 h1 g => ?_)
  · show c_if true (c_invI P m pc L (rf q :: st) (T, M) idx) = _
    rcases hkn with rfl | rfl
    · simp only [c_if, cond_true, c_invI, hp]
      show (if (([] : List cV)).length = 0 then c_call P j [rf q] st else none) = _
      rw [if_pos (show ([] : List cV).length = 0 from rfl)]
      unfold c_call
      exact if_pos ⟨hm.1, hm.2, h8⟩
    · simp only [c_if, cond_true, c_invI, hp]
      show (if (([] : List cV)).length = 0 then c_call P j [rf q] st else none) = _
      rw [if_pos (show ([] : List cV).length = 0 from rfl)]
      unfold c_call
      exact if_pos ⟨hm.1, hm.2, h8⟩
  · rw [g.1, g.2]
    exact kk
end BT
def bU_0 : bU := []
def bU_1 : bU := (0, 100000, 11) :: bU_0
def bU_2 : bU := (1, 100000, 8) :: bU_1
def bU_3 : bU := (2, 100001, 0) :: bU_2
def bU_4 : bU := (1, 0, 2) :: bU_3
def bU_5 : bU := (1, 1, 0) :: bU_4
theorem kx_0_0 : x_code k_P 0 0 = some (.new 7, 3) := by decide +kernel
theorem kp_0_7 : x_pool k_P 0 7 = (9, 11, 0) := by decide +kernel
theorem kx_0_3 : x_code k_P 0 3 = some (.dup, 1) := by decide +kernel
theorem kx_0_4 : x_code k_P 0 4 = some (.invokespecial 9, 3) := by decide +kernel
theorem kx_135_0 : x_code k_P 135 0 = some (.aload_n 0, 1) := by decide +kernel
theorem kx_135_1 : x_code k_P 135 1 = some (.invokespecial 1, 3) := by decide +kernel
theorem kp_135_1 : x_pool k_P 135 1 = (5, 0, 0) := by decide +kernel
theorem kx_135_4 : x_code k_P 135 4 = some (.aload_n 0, 1) := by decide +kernel
theorem kx_135_5 : x_code k_P 135 5 = some (.new 7, 3) := by decide +kernel
theorem kp_135_7 : x_pool k_P 135 7 = (9, 8, 0) := by decide +kernel
theorem kx_135_8 : x_code k_P 135 8 = some (.dup, 1) := by decide +kernel
theorem kx_135_9 : x_code k_P 135 9 = some (.invokespecial 9, 3) := by decide +kernel
theorem kx_102_0 : x_code k_P 102 0 = some (.aload_n 0, 1) := by decide +kernel
theorem kx_102_1 : x_code k_P 102 1 = some (.invokespecial 3, 3) := by decide +kernel
theorem kp_102_3 : x_pool k_P 102 3 = (5, 0, 0) := by decide +kernel
theorem kx_102_4 : x_code k_P 102 4 = some (.aload_n 0, 1) := by decide +kernel
theorem kx_102_5 : x_code k_P 102 5 = some (.sipush 1600, 3) := by decide +kernel
theorem kx_102_8 : x_code k_P 102 8 = some (.newarray .int, 2) := by decide +kernel
theorem kx_102_10 : x_code k_P 102 10 = some (.putfield 9, 3) := by decide +kernel
theorem kn_102 : (x_nm k_P 102).name = "<init>" := by decide +kernel
theorem ki_102 : x_mci k_P 102 = 8 := by decide +kernel
theorem kp_102_9 : x_pool k_P 102 9 = (1, 8, 0) := by decide +kernel
theorem kx_102_13 : x_code k_P 102 13 = some (.aload_n 0, 1) := by decide +kernel
theorem kx_102_14 : x_code k_P 102 14 = some (.iconst 0, 1) := by decide +kernel
theorem kx_102_15 : x_code k_P 102 15 = some (.putfield 15, 3) := by decide +kernel
theorem kp_102_15 : x_pool k_P 102 15 = (1, 8, 1) := by decide +kernel
theorem kx_102_18 : x_code k_P 102 18 = some (.return_, 1) := by decide +kernel
theorem kq_102 : x_retk k_P 102 = 0 := by decide +kernel
set_option maxRecDepth 100000 in
theorem bi_2 {xs : Nat → Int} {Ln d : Nat} : cC k_P xs Ln (d + 0) 102 [rf 1] (k_T0.take 2, toM bU_2) (fun r h => r = none ∧ h = (k_T0.take 3, toM bU_5)) := by
  show cP k_P xs Ln (d + 0) 102 0 [(0, rf 1)] [] (k_T0.take 2, toM bU_2) _
  refine s_aload_n kx_102_0 rfl ?_
  refine b_obj kx_102_1 kp_102_3 (by decide) ?_
  refine s_aload_n kx_102_4 rfl ?_
  refine s_sipush (v := 1600) kx_102_5 (by decide) ?_
  refine b_newI (i := 2) (M' := toM bU_3) kx_102_8 rfl (by decide) ⟨by decide, by decide⟩ rfl ?_
  refine s_putf (k := 1) (f := 0) (M' := toM bU_4) kx_102_10 kp_102_9 (bt_at rfl (by decide)) kf_8_0 rfl (Or.inr ⟨kn_102, ki_102⟩) rfl ?_
  refine s_aload_n kx_102_13 rfl ?_
  refine s_iconst (v := 0) kx_102_14 (by decide) ?_
  refine s_putf (k := 1) (f := 1) (M' := toM bU_5) kx_102_15 kp_102_15 (bt_at rfl (by decide)) kf_8_1 rfl (Or.inl (by decide)) rfl ?_
  exact s_vret kx_102_18 kq_102 ⟨rfl, rfl⟩
def bU_6 : bU := (0, 0, 1) :: bU_5
def bU_7 : bU := (3, 100000, 10) :: bU_6
def bU_8 : bU := (4, 100000, 7) :: bU_7
def bU_9 : bU := (5, 100000, 3) :: bU_8
def bU_10 : bU := (6, 100001, 0) :: bU_9
def bU_11 : bU := (5, 0, 6) :: bU_10
def bU_12 : bU := (5, 1, 0) :: bU_11
def bU_13 : bU := (5, 2, 0) :: bU_12
def bU_14 : bU := (5, 3, 0) :: bU_13
def bU_15 : bU := (5, 4, 0) :: bU_14
def bU_16 : bU := (5, 5, 0) :: bU_15
def bU_17 : bU := (5, 6, 0) :: bU_16
def bU_18 : bU := (5, 7, 0) :: bU_17
theorem kp_135_9 : x_pool k_P 135 9 = (4, 102, 0) := by decide +kernel
theorem kcl_102 : x_maxL k_P 102 ≤ 60 ∧ 1 ≤ x_maxL k_P 102 := by decide +kernel
theorem kx_135_12 : x_code k_P 135 12 = some (.putfield 10, 3) := by decide +kernel
theorem kn_135 : (x_nm k_P 135).name = "<init>" := by decide +kernel
theorem ki_135 : x_mci k_P 135 = 11 := by decide +kernel
theorem kp_135_10 : x_pool k_P 135 10 = (1, 11, 0) := by decide +kernel
theorem kx_135_15 : x_code k_P 135 15 = some (.aload_n 0, 1) := by decide +kernel
theorem kx_135_16 : x_code k_P 135 16 = some (.new 16, 3) := by decide +kernel
theorem kp_135_16 : x_pool k_P 135 16 = (9, 10, 0) := by decide +kernel
theorem kx_135_19 : x_code k_P 135 19 = some (.dup, 1) := by decide +kernel
theorem kx_135_20 : x_code k_P 135 20 = some (.invokespecial 18, 3) := by decide +kernel
theorem kx_120_0 : x_code k_P 120 0 = some (.aload_n 0, 1) := by decide +kernel
theorem kx_120_1 : x_code k_P 120 1 = some (.invokespecial 3, 3) := by decide +kernel
theorem kp_120_3 : x_pool k_P 120 3 = (5, 0, 0) := by decide +kernel
theorem kx_120_4 : x_code k_P 120 4 = some (.aload_n 0, 1) := by decide +kernel
theorem kx_120_5 : x_code k_P 120 5 = some (.new 9, 3) := by decide +kernel
theorem kp_120_9 : x_pool k_P 120 9 = (9, 7, 0) := by decide +kernel
theorem kx_120_8 : x_code k_P 120 8 = some (.dup, 1) := by decide +kernel
theorem kx_120_9 : x_code k_P 120 9 = some (.invokespecial 11, 3) := by decide +kernel
theorem kx_88_0 : x_code k_P 88 0 = some (.aload_n 0, 1) := by decide +kernel
theorem kx_88_1 : x_code k_P 88 1 = some (.invokespecial 3, 3) := by decide +kernel
theorem kp_88_3 : x_pool k_P 88 3 = (5, 0, 0) := by decide +kernel
theorem kx_88_4 : x_code k_P 88 4 = some (.aload_n 0, 1) := by decide +kernel
theorem kx_88_5 : x_code k_P 88 5 = some (.new 9, 3) := by decide +kernel
theorem kp_88_9 : x_pool k_P 88 9 = (9, 3, 0) := by decide +kernel
theorem kx_88_8 : x_code k_P 88 8 = some (.dup, 1) := by decide +kernel
theorem kx_88_9 : x_code k_P 88 9 = some (.invokespecial 11, 3) := by decide +kernel
theorem kx_18_0 : x_code k_P 18 0 = some (.aload_n 0, 1) := by decide +kernel
theorem kx_18_1 : x_code k_P 18 1 = some (.invokespecial 1, 3) := by decide +kernel
theorem kp_18_1 : x_pool k_P 18 1 = (5, 0, 0) := by decide +kernel
theorem kx_18_4 : x_code k_P 18 4 = some (.aload_n 0, 1) := by decide +kernel
theorem kx_18_5 : x_code k_P 18 5 = some (.iconst 0, 1) := by decide +kernel
theorem kx_18_6 : x_code k_P 18 6 = some (.newarray .int, 2) := by decide +kernel
theorem kx_18_8 : x_code k_P 18 8 = some (.putfield 7, 3) := by decide +kernel
theorem kp_18_7 : x_pool k_P 18 7 = (1, 3, 0) := by decide +kernel
theorem kx_18_11 : x_code k_P 18 11 = some (.aload_n 0, 1) := by decide +kernel
theorem kx_18_12 : x_code k_P 18 12 = some (.iconst 0, 1) := by decide +kernel
theorem kx_18_13 : x_code k_P 18 13 = some (.putfield 13, 3) := by decide +kernel
theorem kp_18_13 : x_pool k_P 18 13 = (1, 3, 1) := by decide +kernel
theorem kx_18_16 : x_code k_P 18 16 = some (.aload_n 0, 1) := by decide +kernel
theorem kx_18_17 : x_code k_P 18 17 = some (.iconst 0, 1) := by decide +kernel
theorem kx_18_18 : x_code k_P 18 18 = some (.putfield 17, 3) := by decide +kernel
theorem kp_18_17 : x_pool k_P 18 17 = (1, 3, 2) := by decide +kernel
theorem kx_18_21 : x_code k_P 18 21 = some (.aload_n 0, 1) := by decide +kernel
theorem kx_18_22 : x_code k_P 18 22 = some (.iconst 0, 1) := by decide +kernel
theorem kx_18_23 : x_code k_P 18 23 = some (.putfield 20, 3) := by decide +kernel
theorem kp_18_20 : x_pool k_P 18 20 = (1, 3, 3) := by decide +kernel
theorem kx_18_26 : x_code k_P 18 26 = some (.aload_n 0, 1) := by decide +kernel
theorem kx_18_27 : x_code k_P 18 27 = some (.iconst 0, 1) := by decide +kernel
theorem kx_18_28 : x_code k_P 18 28 = some (.putfield 23, 3) := by decide +kernel
theorem kp_18_23 : x_pool k_P 18 23 = (1, 3, 4) := by decide +kernel
theorem kx_18_31 : x_code k_P 18 31 = some (.aload_n 0, 1) := by decide +kernel
theorem kx_18_32 : x_code k_P 18 32 = some (.iconst 0, 1) := by decide +kernel
theorem kx_18_33 : x_code k_P 18 33 = some (.putfield 26, 3) := by decide +kernel
theorem kp_18_26 : x_pool k_P 18 26 = (1, 3, 5) := by decide +kernel
theorem kx_18_36 : x_code k_P 18 36 = some (.aload_n 0, 1) := by decide +kernel
theorem kx_18_37 : x_code k_P 18 37 = some (.iconst 0, 1) := by decide +kernel
theorem kx_18_38 : x_code k_P 18 38 = some (.putfield 29, 3) := by decide +kernel
theorem kp_18_29 : x_pool k_P 18 29 = (1, 3, 6) := by decide +kernel
theorem kx_18_41 : x_code k_P 18 41 = some (.aload_n 0, 1) := by decide +kernel
theorem kx_18_42 : x_code k_P 18 42 = some (.iconst 0, 1) := by decide +kernel
theorem kx_18_43 : x_code k_P 18 43 = some (.putfield 32, 3) := by decide +kernel
theorem kp_18_32 : x_pool k_P 18 32 = (1, 3, 7) := by decide +kernel
theorem kx_18_46 : x_code k_P 18 46 = some (.return_, 1) := by decide +kernel
theorem kq_18 : x_retk k_P 18 = 0 := by decide +kernel
set_option maxRecDepth 100000 in
theorem bi_5 {xs : Nat → Int} {Ln d : Nat} : cC k_P xs Ln (d + 0) 18 [rf 5] (k_T0.take 6, toM bU_9) (fun r h => r = none ∧ h = (k_T0.take 7, toM bU_18)) := by
  show cP k_P xs Ln (d + 0) 18 0 [(0, rf 5)] [] (k_T0.take 6, toM bU_9) _
  refine s_aload_n kx_18_0 rfl ?_
  refine b_obj kx_18_1 kp_18_1 (by decide) ?_
  refine s_aload_n kx_18_4 rfl ?_
  refine s_iconst (v := 0) kx_18_5 (by decide) ?_
  refine b_newI (i := 6) (M' := toM bU_10) kx_18_6 rfl (by decide) ⟨by decide, by decide⟩ rfl ?_
  refine s_putf (k := 5) (f := 0) (M' := toM bU_11) kx_18_8 kp_18_7 (bt_at rfl (by decide)) kf_3_0 rfl (Or.inl (by decide)) rfl ?_
  refine s_aload_n kx_18_11 rfl ?_
  refine s_iconst (v := 0) kx_18_12 (by decide) ?_
  refine s_putf (k := 5) (f := 1) (M' := toM bU_12) kx_18_13 kp_18_13 (bt_at rfl (by decide)) kf_3_1 rfl (Or.inl (by decide)) rfl ?_
  refine s_aload_n kx_18_16 rfl ?_
  refine s_iconst (v := 0) kx_18_17 (by decide) ?_
  refine s_putf (k := 5) (f := 2) (M' := toM bU_13) kx_18_18 kp_18_17 (bt_at rfl (by decide)) kf_3_2 rfl (Or.inl (by decide)) rfl ?_
  refine s_aload_n kx_18_21 rfl ?_
  refine s_iconst (v := 0) kx_18_22 (by decide) ?_
  refine s_putf (k := 5) (f := 3) (M' := toM bU_14) kx_18_23 kp_18_20 (bt_at rfl (by decide)) kf_3_3 rfl (Or.inl (by decide)) rfl ?_
  refine s_aload_n kx_18_26 rfl ?_
  refine s_iconst (v := 0) kx_18_27 (by decide) ?_
  refine s_putf (k := 5) (f := 4) (M' := toM bU_15) kx_18_28 kp_18_23 (bt_at rfl (by decide)) kf_3_4 rfl (Or.inl (by decide)) rfl ?_
  refine s_aload_n kx_18_31 rfl ?_
  refine s_iconst (v := 0) kx_18_32 (by decide) ?_
  refine s_putf (k := 5) (f := 5) (M' := toM bU_16) kx_18_33 kp_18_26 (bt_at rfl (by decide)) kf_3_5 rfl (Or.inl (by decide)) rfl ?_
  refine s_aload_n kx_18_36 rfl ?_
  refine s_iconst (v := 0) kx_18_37 (by decide) ?_
  refine s_putf (k := 5) (f := 6) (M' := toM bU_17) kx_18_38 kp_18_29 (bt_at rfl (by decide)) kf_3_6 rfl (Or.inl (by decide)) rfl ?_
  refine s_aload_n kx_18_41 rfl ?_
  refine s_iconst (v := 0) kx_18_42 (by decide) ?_
  refine s_putf (k := 5) (f := 7) (M' := toM bU_18) kx_18_43 kp_18_32 (bt_at rfl (by decide)) kf_3_7 rfl (Or.inl (by decide)) rfl ?_
  exact s_vret kx_18_46 kq_18 ⟨rfl, rfl⟩
def bU_19 : bU := (4, 0, 5) :: bU_18
theorem kp_88_11 : x_pool k_P 88 11 = (4, 18, 0) := by decide +kernel
theorem kcl_18 : x_maxL k_P 18 ≤ 60 ∧ 1 ≤ x_maxL k_P 18 := by decide +kernel
theorem kx_88_12 : x_code k_P 88 12 = some (.putfield 12, 3) := by decide +kernel
theorem kn_88 : (x_nm k_P 88).name = "<init>" := by decide +kernel
theorem ki_88 : x_mci k_P 88 = 7 := by decide +kernel
theorem kp_88_12 : x_pool k_P 88 12 = (1, 7, 0) := by decide +kernel
theorem kx_88_15 : x_code k_P 88 15 = some (.return_, 1) := by decide +kernel
theorem kq_88 : x_retk k_P 88 = 0 := by decide +kernel
set_option maxRecDepth 100000 in
theorem bi_4 {xs : Nat → Int} {Ln d : Nat} : cC k_P xs Ln (d + 1) 88 [rf 4] (k_T0.take 5, toM bU_8) (fun r h => r = none ∧ h = (k_T0.take 7, toM bU_19)) := by
  show cP k_P xs Ln (d + 1) 88 0 [(0, rf 4)] [] (k_T0.take 5, toM bU_8) _
  refine s_aload_n kx_88_0 rfl ?_
  refine b_obj kx_88_1 kp_88_3 (by decide) ?_
  refine s_aload_n kx_88_4 rfl ?_
  refine b_newo (i := 5) (M' := toM bU_9) kx_88_5 kp_88_9 rfl (by decide) rfl ?_
  refine s_dup kx_88_8 rfl ?_
  refine b_callI (T1 := k_T0.take 7) (M1 := toM bU_18) kx_88_9 kp_88_11 (by decide) kcl_18 (by decide) (bi_5 (d := d)) ?_
  refine s_putf (k := 4) (f := 0) (M' := toM bU_19) kx_88_12 kp_88_12 (bt_at rfl (by decide)) kf_7_0 rfl (Or.inr ⟨kn_88, ki_88⟩) rfl ?_
  exact s_vret kx_88_15 kq_88 ⟨rfl, rfl⟩
def bU_20 : bU := (3, 0, 4) :: bU_19
def bU_21 : bU := (3, 1, 5) :: bU_20
def bU_22 : bU := (3, 2, 0) :: bU_21
theorem kp_120_11 : x_pool k_P 120 11 = (4, 88, 0) := by decide +kernel
theorem kcl_88 : x_maxL k_P 88 ≤ 60 ∧ 1 ≤ x_maxL k_P 88 := by decide +kernel
theorem kx_120_12 : x_code k_P 120 12 = some (.putfield 12, 3) := by decide +kernel
theorem kn_120 : (x_nm k_P 120).name = "<init>" := by decide +kernel
theorem ki_120 : x_mci k_P 120 = 10 := by decide +kernel
theorem kp_120_12 : x_pool k_P 120 12 = (1, 10, 0) := by decide +kernel
theorem kx_120_15 : x_code k_P 120 15 = some (.aload_n 0, 1) := by decide +kernel
theorem kx_120_16 : x_code k_P 120 16 = some (.aload_n 0, 1) := by decide +kernel
theorem kx_120_17 : x_code k_P 120 17 = some (.getfield 12, 3) := by decide +kernel
theorem kx_120_20 : x_code k_P 120 20 = some (.getfield 18, 3) := by decide +kernel
theorem kp_120_18 : x_pool k_P 120 18 = (1, 7, 0) := by decide +kernel
theorem kx_120_23 : x_code k_P 120 23 = some (.putfield 22, 3) := by decide +kernel
theorem kp_120_22 : x_pool k_P 120 22 = (1, 10, 1) := by decide +kernel
theorem kx_120_26 : x_code k_P 120 26 = some (.aload_n 0, 1) := by decide +kernel
theorem kx_120_27 : x_code k_P 120 27 = some (.iconst 0, 1) := by decide +kernel
theorem kx_120_28 : x_code k_P 120 28 = some (.putfield 23, 3) := by decide +kernel
theorem kp_120_23 : x_pool k_P 120 23 = (1, 10, 2) := by decide +kernel
theorem kx_120_31 : x_code k_P 120 31 = some (.return_, 1) := by decide +kernel
theorem kq_120 : x_retk k_P 120 = 0 := by decide +kernel
set_option maxRecDepth 100000 in
theorem bi_3 {xs : Nat → Int} {Ln d : Nat} : cC k_P xs Ln (d + 2) 120 [rf 3] (k_T0.take 4, toM bU_7) (fun r h => r = none ∧ h = (k_T0.take 7, toM bU_22)) := by
  show cP k_P xs Ln (d + 2) 120 0 [(0, rf 3)] [] (k_T0.take 4, toM bU_7) _
  refine s_aload_n kx_120_0 rfl ?_
  refine b_obj kx_120_1 kp_120_3 (by decide) ?_
  refine s_aload_n kx_120_4 rfl ?_
  refine b_newo (i := 4) (M' := toM bU_8) kx_120_5 kp_120_9 rfl (by decide) rfl ?_
  refine s_dup kx_120_8 rfl ?_
  refine b_callI (T1 := k_T0.take 7) (M1 := toM bU_19) kx_120_9 kp_120_11 (by decide) kcl_88 (by decide) (bi_4 (d := d)) ?_
  refine s_putf (k := 3) (f := 0) (M' := toM bU_20) kx_120_12 kp_120_12 (bt_at rfl (by decide)) kf_10_0 rfl (Or.inr ⟨kn_120, ki_120⟩) rfl ?_
  refine s_aload_n kx_120_15 rfl ?_
  refine s_aload_n kx_120_16 rfl ?_
  refine s_getf (k := 3) (f := 0) (v := rf 4) kx_120_17 kp_120_12 (bt_at rfl (by decide)) kf_10_0 (by decide +kernel) ?_
  refine s_getf (k := 4) (f := 0) (v := rf 5) kx_120_20 kp_120_18 (bt_at rfl (by decide)) kf_7_0 (by decide +kernel) ?_
  refine s_putf (k := 3) (f := 1) (M' := toM bU_21) kx_120_23 kp_120_22 (bt_at rfl (by decide)) kf_10_1 rfl (Or.inr ⟨kn_120, ki_120⟩) rfl ?_
  refine s_aload_n kx_120_26 rfl ?_
  refine s_iconst (v := 0) kx_120_27 (by decide) ?_
  refine s_putf (k := 3) (f := 2) (M' := toM bU_22) kx_120_28 kp_120_23 (bt_at rfl (by decide)) kf_10_2 rfl (Or.inl (by decide)) rfl ?_
  exact s_vret kx_120_31 kq_120 ⟨rfl, rfl⟩
def bU_23 : bU := (0, 1, 3) :: bU_22
def bU_24 : bU := (7, 100000, 5) :: bU_23
def bU_25 : bU := (8, 100000, 9) :: bU_24
def bU_26 : bU := (8, 0, 0) :: bU_25
def bU_27 : bU := (8, 1, 0) :: bU_26
def bU_28 : bU := (8, 2, 0) :: bU_27
def bU_29 : bU := (8, 3, (-1)) :: bU_28
def bU_30 : bU := (9, 100001, 0) :: bU_29
def bU_31 : bU := (8, 4, 9) :: bU_30
def bU_32 : bU := (10, 100001, 0) :: bU_31
def bU_33 : bU := (8, 5, 10) :: bU_32
def bU_34 : bU := (11, 100001, 0) :: bU_33
def bU_35 : bU := (8, 6, 11) :: bU_34
def bU_36 : bU := (12, 100001, 0) :: bU_35
def bU_37 : bU := (8, 7, 12) :: bU_36
def bU_38 : bU := (13, 100001, 0) :: bU_37
def bU_39 : bU := (8, 8, 13) :: bU_38
def bU_40 : bU := (14, 100001, 0) :: bU_39
def bU_41 : bU := (8, 9, 14) :: bU_40
def bU_42 : bU := (15, 100001, 0) :: bU_41
def bU_43 : bU := (8, 10, 15) :: bU_42
def bU_44 : bU := (16, 100001, 0) :: bU_43
def bU_45 : bU := (8, 11, 16) :: bU_44
def bU_46 : bU := (17, 100001, 0) :: bU_45
def bU_47 : bU := (8, 12, 17) :: bU_46
def bU_48 : bU := (18, 100001, 0) :: bU_47
def bU_49 : bU := (8, 13, 18) :: bU_48
def bU_50 : bU := (19, 100000, 1) :: bU_49
def bU_51 : bU := (20, 100001, 0) :: bU_50
def bU_52 : bU := (19, 0, 20) :: bU_51
def bU_53 : bU := (21, 100001, 0) :: bU_52
def bU_54 : bU := (19, 1, 21) :: bU_53
def bU_55 : bU := (19, 2, 0) :: bU_54
theorem kp_135_18 : x_pool k_P 135 18 = (4, 120, 0) := by decide +kernel
theorem kcl_120 : x_maxL k_P 120 ≤ 60 ∧ 1 ≤ x_maxL k_P 120 := by decide +kernel
theorem kx_135_23 : x_code k_P 135 23 = some (.putfield 19, 3) := by decide +kernel
theorem kp_135_19 : x_pool k_P 135 19 = (1, 11, 1) := by decide +kernel
theorem kx_135_26 : x_code k_P 135 26 = some (.aload_n 0, 1) := by decide +kernel
theorem kx_135_27 : x_code k_P 135 27 = some (.new 23, 3) := by decide +kernel
theorem kp_135_23 : x_pool k_P 135 23 = (9, 5, 0) := by decide +kernel
theorem kx_135_30 : x_code k_P 135 30 = some (.dup, 1) := by decide +kernel
theorem kx_135_31 : x_code k_P 135 31 = some (.invokespecial 25, 3) := by decide +kernel
theorem kx_41_0 : x_code k_P 41 0 = some (.aload_n 0, 1) := by decide +kernel
theorem kx_41_1 : x_code k_P 41 1 = some (.invokespecial 5, 3) := by decide +kernel
theorem kp_41_5 : x_pool k_P 41 5 = (5, 0, 0) := by decide +kernel
theorem kx_41_4 : x_code k_P 41 4 = some (.aload_n 0, 1) := by decide +kernel
theorem kx_41_5 : x_code k_P 41 5 = some (.new 11, 3) := by decide +kernel
theorem kp_41_11 : x_pool k_P 41 11 = (9, 9, 0) := by decide +kernel
theorem kx_41_8 : x_code k_P 41 8 = some (.dup, 1) := by decide +kernel
theorem kx_41_9 : x_code k_P 41 9 = some (.invokespecial 13, 3) := by decide +kernel
theorem kx_104_0 : x_code k_P 104 0 = some (.aload_n 0, 1) := by decide +kernel
theorem kx_104_1 : x_code k_P 104 1 = some (.invokespecial 3, 3) := by decide +kernel
theorem kp_104_3 : x_pool k_P 104 3 = (5, 0, 0) := by decide +kernel
theorem kx_104_4 : x_code k_P 104 4 = some (.aload_n 0, 1) := by decide +kernel
theorem kx_104_5 : x_code k_P 104 5 = some (.iconst 0, 1) := by decide +kernel
theorem kx_104_6 : x_code k_P 104 6 = some (.putfield 9, 3) := by decide +kernel
theorem kp_104_9 : x_pool k_P 104 9 = (1, 9, 0) := by decide +kernel
theorem kx_104_9 : x_code k_P 104 9 = some (.aload_n 0, 1) := by decide +kernel
theorem kx_104_10 : x_code k_P 104 10 = some (.iconst 0, 1) := by decide +kernel
theorem kx_104_11 : x_code k_P 104 11 = some (.putfield 15, 3) := by decide +kernel
theorem kp_104_15 : x_pool k_P 104 15 = (1, 9, 1) := by decide +kernel
theorem kx_104_14 : x_code k_P 104 14 = some (.aload_n 0, 1) := by decide +kernel
theorem kx_104_15 : x_code k_P 104 15 = some (.iconst 0, 1) := by decide +kernel
theorem kx_104_16 : x_code k_P 104 16 = some (.putfield 18, 3) := by decide +kernel
theorem kp_104_18 : x_pool k_P 104 18 = (1, 9, 2) := by decide +kernel
theorem kx_104_19 : x_code k_P 104 19 = some (.aload_n 0, 1) := by decide +kernel
theorem kx_104_20 : x_code k_P 104 20 = some (.iconst (-1), 1) := by decide +kernel
theorem kx_104_21 : x_code k_P 104 21 = some (.putfield 21, 3) := by decide +kernel
theorem kp_104_21 : x_pool k_P 104 21 = (1, 9, 3) := by decide +kernel
theorem kx_104_24 : x_code k_P 104 24 = some (.aload_n 0, 1) := by decide +kernel
theorem kx_104_25 : x_code k_P 104 25 = some (.bipush 8, 2) := by decide +kernel
theorem kx_104_27 : x_code k_P 104 27 = some (.newarray .int, 2) := by decide +kernel
theorem kx_104_29 : x_code k_P 104 29 = some (.putfield 24, 3) := by decide +kernel
theorem kn_104 : (x_nm k_P 104).name = "<init>" := by decide +kernel
theorem ki_104 : x_mci k_P 104 = 9 := by decide +kernel
theorem kp_104_24 : x_pool k_P 104 24 = (1, 9, 4) := by decide +kernel
theorem kx_104_32 : x_code k_P 104 32 = some (.aload_n 0, 1) := by decide +kernel
theorem kx_104_33 : x_code k_P 104 33 = some (.bipush 8, 2) := by decide +kernel
theorem kx_104_35 : x_code k_P 104 35 = some (.newarray .int, 2) := by decide +kernel
theorem kx_104_37 : x_code k_P 104 37 = some (.putfield 28, 3) := by decide +kernel
theorem kp_104_28 : x_pool k_P 104 28 = (1, 9, 5) := by decide +kernel
theorem kx_104_40 : x_code k_P 104 40 = some (.aload_n 0, 1) := by decide +kernel
theorem kx_104_41 : x_code k_P 104 41 = some (.bipush 8, 2) := by decide +kernel
theorem kx_104_43 : x_code k_P 104 43 = some (.newarray .int, 2) := by decide +kernel
theorem kx_104_45 : x_code k_P 104 45 = some (.putfield 31, 3) := by decide +kernel
theorem kp_104_31 : x_pool k_P 104 31 = (1, 9, 6) := by decide +kernel
theorem kx_104_48 : x_code k_P 104 48 = some (.aload_n 0, 1) := by decide +kernel
theorem kx_104_49 : x_code k_P 104 49 = some (.bipush 64, 2) := by decide +kernel
theorem kx_104_51 : x_code k_P 104 51 = some (.newarray .int, 2) := by decide +kernel
theorem kx_104_53 : x_code k_P 104 53 = some (.putfield 34, 3) := by decide +kernel
theorem kp_104_34 : x_pool k_P 104 34 = (1, 9, 7) := by decide +kernel
theorem kx_104_56 : x_code k_P 104 56 = some (.aload_n 0, 1) := by decide +kernel
theorem kx_104_57 : x_code k_P 104 57 = some (.bipush 8, 2) := by decide +kernel
theorem kx_104_59 : x_code k_P 104 59 = some (.newarray .int, 2) := by decide +kernel
theorem kx_104_61 : x_code k_P 104 61 = some (.putfield 37, 3) := by decide +kernel
theorem kp_104_37 : x_pool k_P 104 37 = (1, 9, 8) := by decide +kernel
theorem kx_104_64 : x_code k_P 104 64 = some (.aload_n 0, 1) := by decide +kernel
theorem kx_104_65 : x_code k_P 104 65 = some (.bipush 8, 2) := by decide +kernel
theorem kx_104_67 : x_code k_P 104 67 = some (.newarray .int, 2) := by decide +kernel
theorem kx_104_69 : x_code k_P 104 69 = some (.putfield 40, 3) := by decide +kernel
theorem kp_104_40 : x_pool k_P 104 40 = (1, 9, 9) := by decide +kernel
theorem kx_104_72 : x_code k_P 104 72 = some (.aload_n 0, 1) := by decide +kernel
theorem kx_104_73 : x_code k_P 104 73 = some (.bipush 8, 2) := by decide +kernel
theorem kx_104_75 : x_code k_P 104 75 = some (.newarray .int, 2) := by decide +kernel
theorem kx_104_77 : x_code k_P 104 77 = some (.putfield 43, 3) := by decide +kernel
theorem kp_104_43 : x_pool k_P 104 43 = (1, 9, 10) := by decide +kernel
theorem kx_104_80 : x_code k_P 104 80 = some (.aload_n 0, 1) := by decide +kernel
theorem kx_104_81 : x_code k_P 104 81 = some (.bipush 8, 2) := by decide +kernel
theorem kx_104_83 : x_code k_P 104 83 = some (.newarray .int, 2) := by decide +kernel
theorem kx_104_85 : x_code k_P 104 85 = some (.putfield 46, 3) := by decide +kernel
theorem kp_104_46 : x_pool k_P 104 46 = (1, 9, 11) := by decide +kernel
theorem kx_104_88 : x_code k_P 104 88 = some (.aload_n 0, 1) := by decide +kernel
theorem kx_104_89 : x_code k_P 104 89 = some (.bipush 8, 2) := by decide +kernel
theorem kx_104_91 : x_code k_P 104 91 = some (.newarray .int, 2) := by decide +kernel
theorem kx_104_93 : x_code k_P 104 93 = some (.putfield 49, 3) := by decide +kernel
theorem kp_104_49 : x_pool k_P 104 49 = (1, 9, 12) := by decide +kernel
theorem kx_104_96 : x_code k_P 104 96 = some (.aload_n 0, 1) := by decide +kernel
theorem kx_104_97 : x_code k_P 104 97 = some (.bipush 8, 2) := by decide +kernel
theorem kx_104_99 : x_code k_P 104 99 = some (.newarray .int, 2) := by decide +kernel
theorem kx_104_101 : x_code k_P 104 101 = some (.putfield 52, 3) := by decide +kernel
theorem kp_104_52 : x_pool k_P 104 52 = (1, 9, 13) := by decide +kernel
theorem kx_104_104 : x_code k_P 104 104 = some (.aload_n 0, 1) := by decide +kernel
theorem kx_104_105 : x_code k_P 104 105 = some (.new 55, 3) := by decide +kernel
theorem kp_104_55 : x_pool k_P 104 55 = (9, 1, 0) := by decide +kernel
theorem kx_104_108 : x_code k_P 104 108 = some (.dup, 1) := by decide +kernel
theorem kx_104_109 : x_code k_P 104 109 = some (.invokespecial 57, 3) := by decide +kernel
theorem kx_9_0 : x_code k_P 9 0 = some (.aload_n 0, 1) := by decide +kernel
theorem kx_9_1 : x_code k_P 9 1 = some (.invokespecial 3, 3) := by decide +kernel
theorem kp_9_3 : x_pool k_P 9 3 = (5, 0, 0) := by decide +kernel
theorem kx_9_4 : x_code k_P 9 4 = some (.aload_n 0, 1) := by decide +kernel
theorem kx_9_5 : x_code k_P 9 5 = some (.bipush 64, 2) := by decide +kernel
theorem kx_9_7 : x_code k_P 9 7 = some (.newarray .int, 2) := by decide +kernel
theorem kx_9_9 : x_code k_P 9 9 = some (.putfield 9, 3) := by decide +kernel
theorem kn_9 : (x_nm k_P 9).name = "<init>" := by decide +kernel
theorem ki_9 : x_mci k_P 9 = 1 := by decide +kernel
theorem kp_9_9 : x_pool k_P 9 9 = (1, 1, 0) := by decide +kernel
theorem kx_9_12 : x_code k_P 9 12 = some (.aload_n 0, 1) := by decide +kernel
theorem kx_9_13 : x_code k_P 9 13 = some (.bipush 32, 2) := by decide +kernel
theorem kx_9_15 : x_code k_P 9 15 = some (.newarray .int, 2) := by decide +kernel
theorem kx_9_17 : x_code k_P 9 17 = some (.putfield 15, 3) := by decide +kernel
theorem kp_9_15 : x_pool k_P 9 15 = (1, 1, 1) := by decide +kernel
theorem kx_9_20 : x_code k_P 9 20 = some (.aload_n 0, 1) := by decide +kernel
theorem kx_9_21 : x_code k_P 9 21 = some (.iconst 0, 1) := by decide +kernel
theorem kx_9_22 : x_code k_P 9 22 = some (.putfield 18, 3) := by decide +kernel
theorem kp_9_18 : x_pool k_P 9 18 = (1, 1, 2) := by decide +kernel
theorem kx_9_25 : x_code k_P 9 25 = some (.return_, 1) := by decide +kernel
theorem kq_9 : x_retk k_P 9 = 0 := by decide +kernel
set_option maxRecDepth 100000 in
theorem bi_8 {xs : Nat → Int} {Ln d : Nat} : cC k_P xs Ln (d + 0) 9 [rf 19] (k_T0.take 20, toM bU_50) (fun r h => r = none ∧ h = (k_T0.take 22, toM bU_55)) := by
  show cP k_P xs Ln (d + 0) 9 0 [(0, rf 19)] [] (k_T0.take 20, toM bU_50) _
  refine s_aload_n kx_9_0 rfl ?_
  refine b_obj kx_9_1 kp_9_3 (by decide) ?_
  refine s_aload_n kx_9_4 rfl ?_
  refine s_bipush (v := 64) kx_9_5 (by decide) ?_
  refine b_newI (i := 20) (M' := toM bU_51) kx_9_7 rfl (by decide) ⟨by decide, by decide⟩ rfl ?_
  refine s_putf (k := 19) (f := 0) (M' := toM bU_52) kx_9_9 kp_9_9 (bt_at rfl (by decide)) kf_1_0 rfl (Or.inr ⟨kn_9, ki_9⟩) rfl ?_
  refine s_aload_n kx_9_12 rfl ?_
  refine s_bipush (v := 32) kx_9_13 (by decide) ?_
  refine b_newI (i := 21) (M' := toM bU_53) kx_9_15 rfl (by decide) ⟨by decide, by decide⟩ rfl ?_
  refine s_putf (k := 19) (f := 1) (M' := toM bU_54) kx_9_17 kp_9_15 (bt_at rfl (by decide)) kf_1_1 rfl (Or.inl (by decide)) rfl ?_
  refine s_aload_n kx_9_20 rfl ?_
  refine s_iconst (v := 0) kx_9_21 (by decide) ?_
  refine s_putf (k := 19) (f := 2) (M' := toM bU_55) kx_9_22 kp_9_18 (bt_at rfl (by decide)) kf_1_2 rfl (Or.inl (by decide)) rfl ?_
  exact s_vret kx_9_25 kq_9 ⟨rfl, rfl⟩
def bU_56 : bU := (8, 14, 19) :: bU_55
def bU_57 : bU := (22, 100000, 1) :: bU_56
def bU_58 : bU := (23, 100001, 0) :: bU_57
def bU_59 : bU := (22, 0, 23) :: bU_58
def bU_60 : bU := (24, 100001, 0) :: bU_59
def bU_61 : bU := (22, 1, 24) :: bU_60
def bU_62 : bU := (22, 2, 0) :: bU_61
theorem kp_104_57 : x_pool k_P 104 57 = (4, 9, 0) := by decide +kernel
theorem kcl_9 : x_maxL k_P 9 ≤ 60 ∧ 1 ≤ x_maxL k_P 9 := by decide +kernel
theorem kx_104_112 : x_code k_P 104 112 = some (.putfield 58, 3) := by decide +kernel
theorem kp_104_58 : x_pool k_P 104 58 = (1, 9, 14) := by decide +kernel
theorem kx_104_115 : x_code k_P 104 115 = some (.aload_n 0, 1) := by decide +kernel
theorem kx_104_116 : x_code k_P 104 116 = some (.new 55, 3) := by decide +kernel
theorem kx_104_119 : x_code k_P 104 119 = some (.dup, 1) := by decide +kernel
theorem kx_104_120 : x_code k_P 104 120 = some (.invokespecial 57, 3) := by decide +kernel
set_option maxRecDepth 100000 in
theorem bi_9 {xs : Nat → Int} {Ln d : Nat} : cC k_P xs Ln (d + 0) 9 [rf 22] (k_T0.take 23, toM bU_57) (fun r h => r = none ∧ h = (k_T0.take 25, toM bU_62)) := by
  show cP k_P xs Ln (d + 0) 9 0 [(0, rf 22)] [] (k_T0.take 23, toM bU_57) _
  refine s_aload_n kx_9_0 rfl ?_
  refine b_obj kx_9_1 kp_9_3 (by decide) ?_
  refine s_aload_n kx_9_4 rfl ?_
  refine s_bipush (v := 64) kx_9_5 (by decide) ?_
  refine b_newI (i := 23) (M' := toM bU_58) kx_9_7 rfl (by decide) ⟨by decide, by decide⟩ rfl ?_
  refine s_putf (k := 22) (f := 0) (M' := toM bU_59) kx_9_9 kp_9_9 (bt_at rfl (by decide)) kf_1_0 rfl (Or.inr ⟨kn_9, ki_9⟩) rfl ?_
  refine s_aload_n kx_9_12 rfl ?_
  refine s_bipush (v := 32) kx_9_13 (by decide) ?_
  refine b_newI (i := 24) (M' := toM bU_60) kx_9_15 rfl (by decide) ⟨by decide, by decide⟩ rfl ?_
  refine s_putf (k := 22) (f := 1) (M' := toM bU_61) kx_9_17 kp_9_15 (bt_at rfl (by decide)) kf_1_1 rfl (Or.inl (by decide)) rfl ?_
  refine s_aload_n kx_9_20 rfl ?_
  refine s_iconst (v := 0) kx_9_21 (by decide) ?_
  refine s_putf (k := 22) (f := 2) (M' := toM bU_62) kx_9_22 kp_9_18 (bt_at rfl (by decide)) kf_1_2 rfl (Or.inl (by decide)) rfl ?_
  exact s_vret kx_9_25 kq_9 ⟨rfl, rfl⟩
def bU_63 : bU := (8, 15, 22) :: bU_62
theorem kx_104_123 : x_code k_P 104 123 = some (.putfield 62, 3) := by decide +kernel
theorem kp_104_62 : x_pool k_P 104 62 = (1, 9, 15) := by decide +kernel
theorem kx_104_126 : x_code k_P 104 126 = some (.return_, 1) := by decide +kernel
theorem kq_104 : x_retk k_P 104 = 0 := by decide +kernel
set_option maxRecDepth 100000 in
theorem bi_7 {xs : Nat → Int} {Ln d : Nat} : cC k_P xs Ln (d + 1) 104 [rf 8] (k_T0.take 9, toM bU_25) (fun r h => r = none ∧ h = (k_T0.take 25, toM bU_63)) := by
  show cP k_P xs Ln (d + 1) 104 0 [(0, rf 8)] [] (k_T0.take 9, toM bU_25) _
  refine s_aload_n kx_104_0 rfl ?_
  refine b_obj kx_104_1 kp_104_3 (by decide) ?_
  refine s_aload_n kx_104_4 rfl ?_
  refine s_iconst (v := 0) kx_104_5 (by decide) ?_
  refine s_putf (k := 8) (f := 0) (M' := toM bU_26) kx_104_6 kp_104_9 (bt_at rfl (by decide)) kf_9_0 rfl (Or.inl (by decide)) rfl ?_
  refine s_aload_n kx_104_9 rfl ?_
  refine s_iconst (v := 0) kx_104_10 (by decide) ?_
  refine s_putf (k := 8) (f := 1) (M' := toM bU_27) kx_104_11 kp_104_15 (bt_at rfl (by decide)) kf_9_1 rfl (Or.inl (by decide)) rfl ?_
  refine s_aload_n kx_104_14 rfl ?_
  refine s_iconst (v := 0) kx_104_15 (by decide) ?_
  refine s_putf (k := 8) (f := 2) (M' := toM bU_28) kx_104_16 kp_104_18 (bt_at rfl (by decide)) kf_9_2 rfl (Or.inl (by decide)) rfl ?_
  refine s_aload_n kx_104_19 rfl ?_
  refine s_iconst (v := (-1)) kx_104_20 (by decide) ?_
  refine s_putf (k := 8) (f := 3) (M' := toM bU_29) kx_104_21 kp_104_21 (bt_at rfl (by decide)) kf_9_3 rfl (Or.inl (by decide)) rfl ?_
  refine s_aload_n kx_104_24 rfl ?_
  refine s_bipush (v := 8) kx_104_25 (by decide) ?_
  refine b_newI (i := 9) (M' := toM bU_30) kx_104_27 rfl (by decide) ⟨by decide, by decide⟩ rfl ?_
  refine s_putf (k := 8) (f := 4) (M' := toM bU_31) kx_104_29 kp_104_24 (bt_at rfl (by decide)) kf_9_4 rfl (Or.inr ⟨kn_104, ki_104⟩) rfl ?_
  refine s_aload_n kx_104_32 rfl ?_
  refine s_bipush (v := 8) kx_104_33 (by decide) ?_
  refine b_newI (i := 10) (M' := toM bU_32) kx_104_35 rfl (by decide) ⟨by decide, by decide⟩ rfl ?_
  refine s_putf (k := 8) (f := 5) (M' := toM bU_33) kx_104_37 kp_104_28 (bt_at rfl (by decide)) kf_9_5 rfl (Or.inr ⟨kn_104, ki_104⟩) rfl ?_
  refine s_aload_n kx_104_40 rfl ?_
  refine s_bipush (v := 8) kx_104_41 (by decide) ?_
  refine b_newI (i := 11) (M' := toM bU_34) kx_104_43 rfl (by decide) ⟨by decide, by decide⟩ rfl ?_
  refine s_putf (k := 8) (f := 6) (M' := toM bU_35) kx_104_45 kp_104_31 (bt_at rfl (by decide)) kf_9_6 rfl (Or.inr ⟨kn_104, ki_104⟩) rfl ?_
  refine s_aload_n kx_104_48 rfl ?_
  refine s_bipush (v := 64) kx_104_49 (by decide) ?_
  refine b_newI (i := 12) (M' := toM bU_36) kx_104_51 rfl (by decide) ⟨by decide, by decide⟩ rfl ?_
  refine s_putf (k := 8) (f := 7) (M' := toM bU_37) kx_104_53 kp_104_34 (bt_at rfl (by decide)) kf_9_7 rfl (Or.inr ⟨kn_104, ki_104⟩) rfl ?_
  refine s_aload_n kx_104_56 rfl ?_
  refine s_bipush (v := 8) kx_104_57 (by decide) ?_
  refine b_newI (i := 13) (M' := toM bU_38) kx_104_59 rfl (by decide) ⟨by decide, by decide⟩ rfl ?_
  refine s_putf (k := 8) (f := 8) (M' := toM bU_39) kx_104_61 kp_104_37 (bt_at rfl (by decide)) kf_9_8 rfl (Or.inr ⟨kn_104, ki_104⟩) rfl ?_
  refine s_aload_n kx_104_64 rfl ?_
  refine s_bipush (v := 8) kx_104_65 (by decide) ?_
  refine b_newI (i := 14) (M' := toM bU_40) kx_104_67 rfl (by decide) ⟨by decide, by decide⟩ rfl ?_
  refine s_putf (k := 8) (f := 9) (M' := toM bU_41) kx_104_69 kp_104_40 (bt_at rfl (by decide)) kf_9_9 rfl (Or.inr ⟨kn_104, ki_104⟩) rfl ?_
  refine s_aload_n kx_104_72 rfl ?_
  refine s_bipush (v := 8) kx_104_73 (by decide) ?_
  refine b_newI (i := 15) (M' := toM bU_42) kx_104_75 rfl (by decide) ⟨by decide, by decide⟩ rfl ?_
  refine s_putf (k := 8) (f := 10) (M' := toM bU_43) kx_104_77 kp_104_43 (bt_at rfl (by decide)) kf_9_10 rfl (Or.inr ⟨kn_104, ki_104⟩) rfl ?_
  refine s_aload_n kx_104_80 rfl ?_
  refine s_bipush (v := 8) kx_104_81 (by decide) ?_
  refine b_newI (i := 16) (M' := toM bU_44) kx_104_83 rfl (by decide) ⟨by decide, by decide⟩ rfl ?_
  refine s_putf (k := 8) (f := 11) (M' := toM bU_45) kx_104_85 kp_104_46 (bt_at rfl (by decide)) kf_9_11 rfl (Or.inr ⟨kn_104, ki_104⟩) rfl ?_
  refine s_aload_n kx_104_88 rfl ?_
  refine s_bipush (v := 8) kx_104_89 (by decide) ?_
  refine b_newI (i := 17) (M' := toM bU_46) kx_104_91 rfl (by decide) ⟨by decide, by decide⟩ rfl ?_
  refine s_putf (k := 8) (f := 12) (M' := toM bU_47) kx_104_93 kp_104_49 (bt_at rfl (by decide)) kf_9_12 rfl (Or.inr ⟨kn_104, ki_104⟩) rfl ?_
  refine s_aload_n kx_104_96 rfl ?_
  refine s_bipush (v := 8) kx_104_97 (by decide) ?_
  refine b_newI (i := 18) (M' := toM bU_48) kx_104_99 rfl (by decide) ⟨by decide, by decide⟩ rfl ?_
  refine s_putf (k := 8) (f := 13) (M' := toM bU_49) kx_104_101 kp_104_52 (bt_at rfl (by decide)) kf_9_13 rfl (Or.inr ⟨kn_104, ki_104⟩) rfl ?_
  refine s_aload_n kx_104_104 rfl ?_
  refine b_newo (i := 19) (M' := toM bU_50) kx_104_105 kp_104_55 rfl (by decide) rfl ?_
  refine s_dup kx_104_108 rfl ?_
  refine b_callI (T1 := k_T0.take 22) (M1 := toM bU_55) kx_104_109 kp_104_57 (by decide) kcl_9 (by decide) (bi_8 (d := d)) ?_
  refine s_putf (k := 8) (f := 14) (M' := toM bU_56) kx_104_112 kp_104_58 (bt_at rfl (by decide)) kf_9_14 rfl (Or.inr ⟨kn_104, ki_104⟩) rfl ?_
  refine s_aload_n kx_104_115 rfl ?_
  refine b_newo (i := 22) (M' := toM bU_57) kx_104_116 kp_104_55 rfl (by decide) rfl ?_
  refine s_dup kx_104_119 rfl ?_
  refine b_callI (T1 := k_T0.take 25) (M1 := toM bU_62) kx_104_120 kp_104_57 (by decide) kcl_9 (by decide) (bi_9 (d := d)) ?_
  refine s_putf (k := 8) (f := 15) (M' := toM bU_63) kx_104_123 kp_104_62 (bt_at rfl (by decide)) kf_9_15 rfl (Or.inr ⟨kn_104, ki_104⟩) rfl ?_
  exact s_vret kx_104_126 kq_104 ⟨rfl, rfl⟩
def bU_64 : bU := (7, 0, 8) :: bU_63
def bU_65 : bU := (25, 100000, 9) :: bU_64
def bU_66 : bU := (25, 0, 0) :: bU_65
def bU_67 : bU := (25, 1, 0) :: bU_66
def bU_68 : bU := (25, 2, 0) :: bU_67
def bU_69 : bU := (25, 3, (-1)) :: bU_68
def bU_70 : bU := (26, 100001, 0) :: bU_69
def bU_71 : bU := (25, 4, 26) :: bU_70
def bU_72 : bU := (27, 100001, 0) :: bU_71
def bU_73 : bU := (25, 5, 27) :: bU_72
def bU_74 : bU := (28, 100001, 0) :: bU_73
def bU_75 : bU := (25, 6, 28) :: bU_74
def bU_76 : bU := (29, 100001, 0) :: bU_75
def bU_77 : bU := (25, 7, 29) :: bU_76
def bU_78 : bU := (30, 100001, 0) :: bU_77
def bU_79 : bU := (25, 8, 30) :: bU_78
def bU_80 : bU := (31, 100001, 0) :: bU_79
def bU_81 : bU := (25, 9, 31) :: bU_80
def bU_82 : bU := (32, 100001, 0) :: bU_81
def bU_83 : bU := (25, 10, 32) :: bU_82
def bU_84 : bU := (33, 100001, 0) :: bU_83
def bU_85 : bU := (25, 11, 33) :: bU_84
def bU_86 : bU := (34, 100001, 0) :: bU_85
def bU_87 : bU := (25, 12, 34) :: bU_86
def bU_88 : bU := (35, 100001, 0) :: bU_87
def bU_89 : bU := (25, 13, 35) :: bU_88
def bU_90 : bU := (36, 100000, 1) :: bU_89
def bU_91 : bU := (37, 100001, 0) :: bU_90
def bU_92 : bU := (36, 0, 37) :: bU_91
def bU_93 : bU := (38, 100001, 0) :: bU_92
def bU_94 : bU := (36, 1, 38) :: bU_93
def bU_95 : bU := (36, 2, 0) :: bU_94
theorem kp_41_13 : x_pool k_P 41 13 = (4, 104, 0) := by decide +kernel
theorem kcl_104 : x_maxL k_P 104 ≤ 60 ∧ 1 ≤ x_maxL k_P 104 := by decide +kernel
theorem kx_41_12 : x_code k_P 41 12 = some (.putfield 14, 3) := by decide +kernel
theorem kp_41_14 : x_pool k_P 41 14 = (1, 5, 0) := by decide +kernel
theorem kx_41_15 : x_code k_P 41 15 = some (.aload_n 0, 1) := by decide +kernel
theorem kx_41_16 : x_code k_P 41 16 = some (.new 11, 3) := by decide +kernel
theorem kx_41_19 : x_code k_P 41 19 = some (.dup, 1) := by decide +kernel
theorem kx_41_20 : x_code k_P 41 20 = some (.invokespecial 13, 3) := by decide +kernel
set_option maxRecDepth 100000 in
theorem bi_11 {xs : Nat → Int} {Ln d : Nat} : cC k_P xs Ln (d + 0) 9 [rf 36] (k_T0.take 37, toM bU_90) (fun r h => r = none ∧ h = (k_T0.take 39, toM bU_95)) := by
  show cP k_P xs Ln (d + 0) 9 0 [(0, rf 36)] [] (k_T0.take 37, toM bU_90) _
  refine s_aload_n kx_9_0 rfl ?_
  refine b_obj kx_9_1 kp_9_3 (by decide) ?_
  refine s_aload_n kx_9_4 rfl ?_
  refine s_bipush (v := 64) kx_9_5 (by decide) ?_
  refine b_newI (i := 37) (M' := toM bU_91) kx_9_7 rfl (by decide) ⟨by decide, by decide⟩ rfl ?_
  refine s_putf (k := 36) (f := 0) (M' := toM bU_92) kx_9_9 kp_9_9 (bt_at rfl (by decide)) kf_1_0 rfl (Or.inr ⟨kn_9, ki_9⟩) rfl ?_
  refine s_aload_n kx_9_12 rfl ?_
  refine s_bipush (v := 32) kx_9_13 (by decide) ?_
  refine b_newI (i := 38) (M' := toM bU_93) kx_9_15 rfl (by decide) ⟨by decide, by decide⟩ rfl ?_
  refine s_putf (k := 36) (f := 1) (M' := toM bU_94) kx_9_17 kp_9_15 (bt_at rfl (by decide)) kf_1_1 rfl (Or.inl (by decide)) rfl ?_
  refine s_aload_n kx_9_20 rfl ?_
  refine s_iconst (v := 0) kx_9_21 (by decide) ?_
  refine s_putf (k := 36) (f := 2) (M' := toM bU_95) kx_9_22 kp_9_18 (bt_at rfl (by decide)) kf_1_2 rfl (Or.inl (by decide)) rfl ?_
  exact s_vret kx_9_25 kq_9 ⟨rfl, rfl⟩
def bU_96 : bU := (25, 14, 36) :: bU_95
def bU_97 : bU := (39, 100000, 1) :: bU_96
def bU_98 : bU := (40, 100001, 0) :: bU_97
def bU_99 : bU := (39, 0, 40) :: bU_98
def bU_100 : bU := (41, 100001, 0) :: bU_99
def bU_101 : bU := (39, 1, 41) :: bU_100
def bU_102 : bU := (39, 2, 0) :: bU_101
set_option maxRecDepth 100000 in
theorem bi_12 {xs : Nat → Int} {Ln d : Nat} : cC k_P xs Ln (d + 0) 9 [rf 39] (k_T0.take 40, toM bU_97) (fun r h => r = none ∧ h = (k_T0.take 42, toM bU_102)) := by
  show cP k_P xs Ln (d + 0) 9 0 [(0, rf 39)] [] (k_T0.take 40, toM bU_97) _
  refine s_aload_n kx_9_0 rfl ?_
  refine b_obj kx_9_1 kp_9_3 (by decide) ?_
  refine s_aload_n kx_9_4 rfl ?_
  refine s_bipush (v := 64) kx_9_5 (by decide) ?_
  refine b_newI (i := 40) (M' := toM bU_98) kx_9_7 rfl (by decide) ⟨by decide, by decide⟩ rfl ?_
  refine s_putf (k := 39) (f := 0) (M' := toM bU_99) kx_9_9 kp_9_9 (bt_at rfl (by decide)) kf_1_0 rfl (Or.inr ⟨kn_9, ki_9⟩) rfl ?_
  refine s_aload_n kx_9_12 rfl ?_
  refine s_bipush (v := 32) kx_9_13 (by decide) ?_
  refine b_newI (i := 41) (M' := toM bU_100) kx_9_15 rfl (by decide) ⟨by decide, by decide⟩ rfl ?_
  refine s_putf (k := 39) (f := 1) (M' := toM bU_101) kx_9_17 kp_9_15 (bt_at rfl (by decide)) kf_1_1 rfl (Or.inl (by decide)) rfl ?_
  refine s_aload_n kx_9_20 rfl ?_
  refine s_iconst (v := 0) kx_9_21 (by decide) ?_
  refine s_putf (k := 39) (f := 2) (M' := toM bU_102) kx_9_22 kp_9_18 (bt_at rfl (by decide)) kf_1_2 rfl (Or.inl (by decide)) rfl ?_
  exact s_vret kx_9_25 kq_9 ⟨rfl, rfl⟩
def bU_103 : bU := (25, 15, 39) :: bU_102
set_option maxRecDepth 100000 in
theorem bi_10 {xs : Nat → Int} {Ln d : Nat} : cC k_P xs Ln (d + 1) 104 [rf 25] (k_T0.take 26, toM bU_65) (fun r h => r = none ∧ h = (k_T0.take 42, toM bU_103)) := by
  show cP k_P xs Ln (d + 1) 104 0 [(0, rf 25)] [] (k_T0.take 26, toM bU_65) _
  refine s_aload_n kx_104_0 rfl ?_
  refine b_obj kx_104_1 kp_104_3 (by decide) ?_
  refine s_aload_n kx_104_4 rfl ?_
  refine s_iconst (v := 0) kx_104_5 (by decide) ?_
  refine s_putf (k := 25) (f := 0) (M' := toM bU_66) kx_104_6 kp_104_9 (bt_at rfl (by decide)) kf_9_0 rfl (Or.inl (by decide)) rfl ?_
  refine s_aload_n kx_104_9 rfl ?_
  refine s_iconst (v := 0) kx_104_10 (by decide) ?_
  refine s_putf (k := 25) (f := 1) (M' := toM bU_67) kx_104_11 kp_104_15 (bt_at rfl (by decide)) kf_9_1 rfl (Or.inl (by decide)) rfl ?_
  refine s_aload_n kx_104_14 rfl ?_
  refine s_iconst (v := 0) kx_104_15 (by decide) ?_
  refine s_putf (k := 25) (f := 2) (M' := toM bU_68) kx_104_16 kp_104_18 (bt_at rfl (by decide)) kf_9_2 rfl (Or.inl (by decide)) rfl ?_
  refine s_aload_n kx_104_19 rfl ?_
  refine s_iconst (v := (-1)) kx_104_20 (by decide) ?_
  refine s_putf (k := 25) (f := 3) (M' := toM bU_69) kx_104_21 kp_104_21 (bt_at rfl (by decide)) kf_9_3 rfl (Or.inl (by decide)) rfl ?_
  refine s_aload_n kx_104_24 rfl ?_
  refine s_bipush (v := 8) kx_104_25 (by decide) ?_
  refine b_newI (i := 26) (M' := toM bU_70) kx_104_27 rfl (by decide) ⟨by decide, by decide⟩ rfl ?_
  refine s_putf (k := 25) (f := 4) (M' := toM bU_71) kx_104_29 kp_104_24 (bt_at rfl (by decide)) kf_9_4 rfl (Or.inr ⟨kn_104, ki_104⟩) rfl ?_
  refine s_aload_n kx_104_32 rfl ?_
  refine s_bipush (v := 8) kx_104_33 (by decide) ?_
  refine b_newI (i := 27) (M' := toM bU_72) kx_104_35 rfl (by decide) ⟨by decide, by decide⟩ rfl ?_
  refine s_putf (k := 25) (f := 5) (M' := toM bU_73) kx_104_37 kp_104_28 (bt_at rfl (by decide)) kf_9_5 rfl (Or.inr ⟨kn_104, ki_104⟩) rfl ?_
  refine s_aload_n kx_104_40 rfl ?_
  refine s_bipush (v := 8) kx_104_41 (by decide) ?_
  refine b_newI (i := 28) (M' := toM bU_74) kx_104_43 rfl (by decide) ⟨by decide, by decide⟩ rfl ?_
  refine s_putf (k := 25) (f := 6) (M' := toM bU_75) kx_104_45 kp_104_31 (bt_at rfl (by decide)) kf_9_6 rfl (Or.inr ⟨kn_104, ki_104⟩) rfl ?_
  refine s_aload_n kx_104_48 rfl ?_
  refine s_bipush (v := 64) kx_104_49 (by decide) ?_
  refine b_newI (i := 29) (M' := toM bU_76) kx_104_51 rfl (by decide) ⟨by decide, by decide⟩ rfl ?_
  refine s_putf (k := 25) (f := 7) (M' := toM bU_77) kx_104_53 kp_104_34 (bt_at rfl (by decide)) kf_9_7 rfl (Or.inr ⟨kn_104, ki_104⟩) rfl ?_
  refine s_aload_n kx_104_56 rfl ?_
  refine s_bipush (v := 8) kx_104_57 (by decide) ?_
  refine b_newI (i := 30) (M' := toM bU_78) kx_104_59 rfl (by decide) ⟨by decide, by decide⟩ rfl ?_
  refine s_putf (k := 25) (f := 8) (M' := toM bU_79) kx_104_61 kp_104_37 (bt_at rfl (by decide)) kf_9_8 rfl (Or.inr ⟨kn_104, ki_104⟩) rfl ?_
  refine s_aload_n kx_104_64 rfl ?_
  refine s_bipush (v := 8) kx_104_65 (by decide) ?_
  refine b_newI (i := 31) (M' := toM bU_80) kx_104_67 rfl (by decide) ⟨by decide, by decide⟩ rfl ?_
  refine s_putf (k := 25) (f := 9) (M' := toM bU_81) kx_104_69 kp_104_40 (bt_at rfl (by decide)) kf_9_9 rfl (Or.inr ⟨kn_104, ki_104⟩) rfl ?_
  refine s_aload_n kx_104_72 rfl ?_
  refine s_bipush (v := 8) kx_104_73 (by decide) ?_
  refine b_newI (i := 32) (M' := toM bU_82) kx_104_75 rfl (by decide) ⟨by decide, by decide⟩ rfl ?_
  refine s_putf (k := 25) (f := 10) (M' := toM bU_83) kx_104_77 kp_104_43 (bt_at rfl (by decide)) kf_9_10 rfl (Or.inr ⟨kn_104, ki_104⟩) rfl ?_
  refine s_aload_n kx_104_80 rfl ?_
  refine s_bipush (v := 8) kx_104_81 (by decide) ?_
  refine b_newI (i := 33) (M' := toM bU_84) kx_104_83 rfl (by decide) ⟨by decide, by decide⟩ rfl ?_
  refine s_putf (k := 25) (f := 11) (M' := toM bU_85) kx_104_85 kp_104_46 (bt_at rfl (by decide)) kf_9_11 rfl (Or.inr ⟨kn_104, ki_104⟩) rfl ?_
  refine s_aload_n kx_104_88 rfl ?_
  refine s_bipush (v := 8) kx_104_89 (by decide) ?_
  refine b_newI (i := 34) (M' := toM bU_86) kx_104_91 rfl (by decide) ⟨by decide, by decide⟩ rfl ?_
  refine s_putf (k := 25) (f := 12) (M' := toM bU_87) kx_104_93 kp_104_49 (bt_at rfl (by decide)) kf_9_12 rfl (Or.inr ⟨kn_104, ki_104⟩) rfl ?_
  refine s_aload_n kx_104_96 rfl ?_
  refine s_bipush (v := 8) kx_104_97 (by decide) ?_
  refine b_newI (i := 35) (M' := toM bU_88) kx_104_99 rfl (by decide) ⟨by decide, by decide⟩ rfl ?_
  refine s_putf (k := 25) (f := 13) (M' := toM bU_89) kx_104_101 kp_104_52 (bt_at rfl (by decide)) kf_9_13 rfl (Or.inr ⟨kn_104, ki_104⟩) rfl ?_
  refine s_aload_n kx_104_104 rfl ?_
  refine b_newo (i := 36) (M' := toM bU_90) kx_104_105 kp_104_55 rfl (by decide) rfl ?_
  refine s_dup kx_104_108 rfl ?_
  refine b_callI (T1 := k_T0.take 39) (M1 := toM bU_95) kx_104_109 kp_104_57 (by decide) kcl_9 (by decide) (bi_11 (d := d)) ?_
  refine s_putf (k := 25) (f := 14) (M' := toM bU_96) kx_104_112 kp_104_58 (bt_at rfl (by decide)) kf_9_14 rfl (Or.inr ⟨kn_104, ki_104⟩) rfl ?_
  refine s_aload_n kx_104_115 rfl ?_
  refine b_newo (i := 39) (M' := toM bU_97) kx_104_116 kp_104_55 rfl (by decide) rfl ?_
  refine s_dup kx_104_119 rfl ?_
  refine b_callI (T1 := k_T0.take 42) (M1 := toM bU_102) kx_104_120 kp_104_57 (by decide) kcl_9 (by decide) (bi_12 (d := d)) ?_
  refine s_putf (k := 25) (f := 15) (M' := toM bU_103) kx_104_123 kp_104_62 (bt_at rfl (by decide)) kf_9_15 rfl (Or.inr ⟨kn_104, ki_104⟩) rfl ?_
  exact s_vret kx_104_126 kq_104 ⟨rfl, rfl⟩
def bU_104 : bU := (7, 1, 25) :: bU_103
def bU_105 : bU := (42, 100001, 0) :: bU_104
def bU_106 : bU := (7, 2, 42) :: bU_105
def bU_107 : bU := (43, 100001, 0) :: bU_106
def bU_108 : bU := (7, 3, 43) :: bU_107
theorem kx_41_23 : x_code k_P 41 23 = some (.putfield 18, 3) := by decide +kernel
theorem kp_41_18 : x_pool k_P 41 18 = (1, 5, 1) := by decide +kernel
theorem kx_41_26 : x_code k_P 41 26 = some (.aload_n 0, 1) := by decide +kernel
theorem kx_41_27 : x_code k_P 41 27 = some (.bipush 81, 2) := by decide +kernel
theorem kx_41_29 : x_code k_P 41 29 = some (.newarray .int, 2) := by decide +kernel
theorem kx_41_31 : x_code k_P 41 31 = some (.putfield 21, 3) := by decide +kernel
theorem kn_41 : (x_nm k_P 41).name = "<init>" := by decide +kernel
theorem ki_41 : x_mci k_P 41 = 5 := by decide +kernel
theorem kp_41_21 : x_pool k_P 41 21 = (1, 5, 2) := by decide +kernel
theorem kx_41_34 : x_code k_P 41 34 = some (.aload_n 0, 1) := by decide +kernel
theorem kx_41_35 : x_code k_P 41 35 = some (.bipush 6, 2) := by decide +kernel
theorem kx_41_37 : x_code k_P 41 37 = some (.newarray .int, 2) := by decide +kernel
theorem kx_41_39 : x_code k_P 41 39 = some (.putfield 27, 3) := by decide +kernel
theorem kp_41_27 : x_pool k_P 41 27 = (1, 5, 3) := by decide +kernel
theorem kx_41_42 : x_code k_P 41 42 = some (.return_, 1) := by decide +kernel
theorem kq_41 : x_retk k_P 41 = 0 := by decide +kernel
set_option maxRecDepth 100000 in
theorem bi_6 {xs : Nat → Int} {Ln d : Nat} : cC k_P xs Ln (d + 2) 41 [rf 7] (k_T0.take 8, toM bU_24) (fun r h => r = none ∧ h = (k_T0.take 44, toM bU_108)) := by
  show cP k_P xs Ln (d + 2) 41 0 [(0, rf 7)] [] (k_T0.take 8, toM bU_24) _
  refine s_aload_n kx_41_0 rfl ?_
  refine b_obj kx_41_1 kp_41_5 (by decide) ?_
  refine s_aload_n kx_41_4 rfl ?_
  refine b_newo (i := 8) (M' := toM bU_25) kx_41_5 kp_41_11 rfl (by decide) rfl ?_
  refine s_dup kx_41_8 rfl ?_
  refine b_callI (T1 := k_T0.take 25) (M1 := toM bU_63) kx_41_9 kp_41_13 (by decide) kcl_104 (by decide) (bi_7 (d := d)) ?_
  refine s_putf (k := 7) (f := 0) (M' := toM bU_64) kx_41_12 kp_41_14 (bt_at rfl (by decide)) kf_5_0 rfl (Or.inl (by decide)) rfl ?_
  refine s_aload_n kx_41_15 rfl ?_
  refine b_newo (i := 25) (M' := toM bU_65) kx_41_16 kp_41_11 rfl (by decide) rfl ?_
  refine s_dup kx_41_19 rfl ?_
  refine b_callI (T1 := k_T0.take 42) (M1 := toM bU_103) kx_41_20 kp_41_13 (by decide) kcl_104 (by decide) (bi_10 (d := d)) ?_
  refine s_putf (k := 7) (f := 1) (M' := toM bU_104) kx_41_23 kp_41_18 (bt_at rfl (by decide)) kf_5_1 rfl (Or.inl (by decide)) rfl ?_
  refine s_aload_n kx_41_26 rfl ?_
  refine s_bipush (v := 81) kx_41_27 (by decide) ?_
  refine b_newI (i := 42) (M' := toM bU_105) kx_41_29 rfl (by decide) ⟨by decide, by decide⟩ rfl ?_
  refine s_putf (k := 7) (f := 2) (M' := toM bU_106) kx_41_31 kp_41_21 (bt_at rfl (by decide)) kf_5_2 rfl (Or.inr ⟨kn_41, ki_41⟩) rfl ?_
  refine s_aload_n kx_41_34 rfl ?_
  refine s_bipush (v := 6) kx_41_35 (by decide) ?_
  refine b_newI (i := 43) (M' := toM bU_107) kx_41_37 rfl (by decide) ⟨by decide, by decide⟩ rfl ?_
  refine s_putf (k := 7) (f := 3) (M' := toM bU_108) kx_41_39 kp_41_27 (bt_at rfl (by decide)) kf_5_3 rfl (Or.inr ⟨kn_41, ki_41⟩) rfl ?_
  exact s_vret kx_41_42 kq_41 ⟨rfl, rfl⟩
def bU_109 : bU := (0, 2, 7) :: bU_108
def bU_110 : bU := (44, 100000, 2) :: bU_109
def bU_111 : bU := (45, 100001, 0) :: bU_110
def bU_112 : bU := (44, 0, 45) :: bU_111
def bU_113 : bU := (44, 1, 0) :: bU_112
def bU_114 : bU := (44, 2, 0) :: bU_113
theorem kp_135_25 : x_pool k_P 135 25 = (4, 41, 0) := by decide +kernel
theorem kcl_41 : x_maxL k_P 41 ≤ 60 ∧ 1 ≤ x_maxL k_P 41 := by decide +kernel
theorem kx_135_34 : x_code k_P 135 34 = some (.putfield 26, 3) := by decide +kernel
theorem kp_135_26 : x_pool k_P 135 26 = (1, 11, 2) := by decide +kernel
theorem kx_135_37 : x_code k_P 135 37 = some (.aload_n 0, 1) := by decide +kernel
theorem kx_135_38 : x_code k_P 135 38 = some (.new 30, 3) := by decide +kernel
theorem kp_135_30 : x_pool k_P 135 30 = (9, 2, 0) := by decide +kernel
theorem kx_135_41 : x_code k_P 135 41 = some (.dup, 1) := by decide +kernel
theorem kx_135_42 : x_code k_P 135 42 = some (.invokespecial 32, 3) := by decide +kernel
theorem kx_15_0 : x_code k_P 15 0 = some (.aload_n 0, 1) := by decide +kernel
theorem kx_15_1 : x_code k_P 15 1 = some (.invokespecial 3, 3) := by decide +kernel
theorem kp_15_3 : x_pool k_P 15 3 = (5, 0, 0) := by decide +kernel
theorem kx_15_4 : x_code k_P 15 4 = some (.aload_n 0, 1) := by decide +kernel
theorem kx_15_5 : x_code k_P 15 5 = some (.sipush 1620, 3) := by decide +kernel
theorem kx_15_8 : x_code k_P 15 8 = some (.newarray .int, 2) := by decide +kernel
theorem kx_15_10 : x_code k_P 15 10 = some (.putfield 11, 3) := by decide +kernel
theorem kn_15 : (x_nm k_P 15).name = "<init>" := by decide +kernel
theorem ki_15 : x_mci k_P 15 = 2 := by decide +kernel
theorem kp_15_11 : x_pool k_P 15 11 = (1, 2, 0) := by decide +kernel
theorem kx_15_13 : x_code k_P 15 13 = some (.aload_n 0, 1) := by decide +kernel
theorem kx_15_14 : x_code k_P 15 14 = some (.iconst 0, 1) := by decide +kernel
theorem kx_15_15 : x_code k_P 15 15 = some (.putfield 17, 3) := by decide +kernel
theorem kp_15_17 : x_pool k_P 15 17 = (1, 2, 1) := by decide +kernel
theorem kx_15_18 : x_code k_P 15 18 = some (.aload_n 0, 1) := by decide +kernel
theorem kx_15_19 : x_code k_P 15 19 = some (.iconst 0, 1) := by decide +kernel
theorem kx_15_20 : x_code k_P 15 20 = some (.putfield 21, 3) := by decide +kernel
theorem kp_15_21 : x_pool k_P 15 21 = (1, 2, 2) := by decide +kernel
theorem kx_15_23 : x_code k_P 15 23 = some (.return_, 1) := by decide +kernel
theorem kq_15 : x_retk k_P 15 = 0 := by decide +kernel
set_option maxRecDepth 100000 in
theorem bi_13 {xs : Nat → Int} {Ln d : Nat} : cC k_P xs Ln (d + 0) 15 [rf 44] (k_T0.take 45, toM bU_110) (fun r h => r = none ∧ h = (k_T0.take 46, toM bU_114)) := by
  show cP k_P xs Ln (d + 0) 15 0 [(0, rf 44)] [] (k_T0.take 45, toM bU_110) _
  refine s_aload_n kx_15_0 rfl ?_
  refine b_obj kx_15_1 kp_15_3 (by decide) ?_
  refine s_aload_n kx_15_4 rfl ?_
  refine s_sipush (v := 1620) kx_15_5 (by decide) ?_
  refine b_newI (i := 45) (M' := toM bU_111) kx_15_8 rfl (by decide) ⟨by decide, by decide⟩ rfl ?_
  refine s_putf (k := 44) (f := 0) (M' := toM bU_112) kx_15_10 kp_15_11 (bt_at rfl (by decide)) kf_2_0 rfl (Or.inr ⟨kn_15, ki_15⟩) rfl ?_
  refine s_aload_n kx_15_13 rfl ?_
  refine s_iconst (v := 0) kx_15_14 (by decide) ?_
  refine s_putf (k := 44) (f := 1) (M' := toM bU_113) kx_15_15 kp_15_17 (bt_at rfl (by decide)) kf_2_1 rfl (Or.inl (by decide)) rfl ?_
  refine s_aload_n kx_15_18 rfl ?_
  refine s_iconst (v := 0) kx_15_19 (by decide) ?_
  refine s_putf (k := 44) (f := 2) (M' := toM bU_114) kx_15_20 kp_15_21 (bt_at rfl (by decide)) kf_2_2 rfl (Or.inl (by decide)) rfl ?_
  exact s_vret kx_15_23 kq_15 ⟨rfl, rfl⟩
def bU_115 : bU := (0, 3, 44) :: bU_114
def bU_116 : bU := (46, 100000, 4) :: bU_115
def bU_117 : bU := (47, 100001, 0) :: bU_116
def bU_118 : bU := (46, 0, 47) :: bU_117
def bU_119 : bU := (48, 100001, 0) :: bU_118
def bU_120 : bU := (46, 1, 48) :: bU_119
def bU_121 : bU := (49, 100001, 0) :: bU_120
def bU_122 : bU := (46, 2, 49) :: bU_121
def bU_123 : bU := (50, 100001, 0) :: bU_122
def bU_124 : bU := (46, 3, 50) :: bU_123
def bU_125 : bU := (46, 4, 0) :: bU_124
def bU_126 : bU := (46, 5, 0) :: bU_125
def bU_127 : bU := (46, 6, (-1)) :: bU_126
theorem kp_135_32 : x_pool k_P 135 32 = (4, 15, 0) := by decide +kernel
theorem kcl_15 : x_maxL k_P 15 ≤ 60 ∧ 1 ≤ x_maxL k_P 15 := by decide +kernel
theorem kx_135_45 : x_code k_P 135 45 = some (.putfield 33, 3) := by decide +kernel
theorem kp_135_33 : x_pool k_P 135 33 = (1, 11, 3) := by decide +kernel
theorem kx_135_48 : x_code k_P 135 48 = some (.aload_n 0, 1) := by decide +kernel
theorem kx_135_49 : x_code k_P 135 49 = some (.new 37, 3) := by decide +kernel
theorem kp_135_37 : x_pool k_P 135 37 = (9, 4, 0) := by decide +kernel
theorem kx_135_52 : x_code k_P 135 52 = some (.dup, 1) := by decide +kernel
theorem kx_135_53 : x_code k_P 135 53 = some (.invokespecial 39, 3) := by decide +kernel
theorem kx_32_0 : x_code k_P 32 0 = some (.aload_n 0, 1) := by decide +kernel
theorem kx_32_1 : x_code k_P 32 1 = some (.invokespecial 3, 3) := by decide +kernel
theorem kp_32_3 : x_pool k_P 32 3 = (5, 0, 0) := by decide +kernel
theorem kx_32_4 : x_code k_P 32 4 = some (.aload_n 0, 1) := by decide +kernel
theorem kx_32_5 : x_code k_P 32 5 = some (.bipush 64, 2) := by decide +kernel
theorem kx_32_7 : x_code k_P 32 7 = some (.newarray .int, 2) := by decide +kernel
theorem kx_32_9 : x_code k_P 32 9 = some (.putfield 9, 3) := by decide +kernel
theorem kn_32 : (x_nm k_P 32).name = "<init>" := by decide +kernel
theorem ki_32 : x_mci k_P 32 = 4 := by decide +kernel
theorem kp_32_9 : x_pool k_P 32 9 = (1, 4, 0) := by decide +kernel
theorem kx_32_12 : x_code k_P 32 12 = some (.aload_n 0, 1) := by decide +kernel
theorem kx_32_13 : x_code k_P 32 13 = some (.bipush 64, 2) := by decide +kernel
theorem kx_32_15 : x_code k_P 32 15 = some (.newarray .int, 2) := by decide +kernel
theorem kx_32_17 : x_code k_P 32 17 = some (.putfield 15, 3) := by decide +kernel
theorem kp_32_15 : x_pool k_P 32 15 = (1, 4, 1) := by decide +kernel
theorem kx_32_20 : x_code k_P 32 20 = some (.aload_n 0, 1) := by decide +kernel
theorem kx_32_21 : x_code k_P 32 21 = some (.bipush 8, 2) := by decide +kernel
theorem kx_32_23 : x_code k_P 32 23 = some (.newarray .int, 2) := by decide +kernel
theorem kx_32_25 : x_code k_P 32 25 = some (.putfield 18, 3) := by decide +kernel
theorem kp_32_18 : x_pool k_P 32 18 = (1, 4, 2) := by decide +kernel
theorem kx_32_28 : x_code k_P 32 28 = some (.aload_n 0, 1) := by decide +kernel
theorem kx_32_29 : x_code k_P 32 29 = some (.bipush 8, 2) := by decide +kernel
theorem kx_32_31 : x_code k_P 32 31 = some (.newarray .int, 2) := by decide +kernel
theorem kx_32_33 : x_code k_P 32 33 = some (.putfield 21, 3) := by decide +kernel
theorem kp_32_21 : x_pool k_P 32 21 = (1, 4, 3) := by decide +kernel
theorem kx_32_36 : x_code k_P 32 36 = some (.aload_n 0, 1) := by decide +kernel
theorem kx_32_37 : x_code k_P 32 37 = some (.iconst 0, 1) := by decide +kernel
theorem kx_32_38 : x_code k_P 32 38 = some (.putfield 24, 3) := by decide +kernel
theorem kp_32_24 : x_pool k_P 32 24 = (1, 4, 4) := by decide +kernel
theorem kx_32_41 : x_code k_P 32 41 = some (.aload_n 0, 1) := by decide +kernel
theorem kx_32_42 : x_code k_P 32 42 = some (.iconst 0, 1) := by decide +kernel
theorem kx_32_43 : x_code k_P 32 43 = some (.putfield 28, 3) := by decide +kernel
theorem kp_32_28 : x_pool k_P 32 28 = (1, 4, 5) := by decide +kernel
theorem kx_32_46 : x_code k_P 32 46 = some (.aload_n 0, 1) := by decide +kernel
theorem kx_32_47 : x_code k_P 32 47 = some (.iconst (-1), 1) := by decide +kernel
theorem kx_32_48 : x_code k_P 32 48 = some (.putfield 31, 3) := by decide +kernel
theorem kp_32_31 : x_pool k_P 32 31 = (1, 4, 6) := by decide +kernel
theorem kx_32_51 : x_code k_P 32 51 = some (.return_, 1) := by decide +kernel
theorem kq_32 : x_retk k_P 32 = 0 := by decide +kernel
set_option maxRecDepth 100000 in
theorem bi_14 {xs : Nat → Int} {Ln d : Nat} : cC k_P xs Ln (d + 0) 32 [rf 46] (k_T0.take 47, toM bU_116) (fun r h => r = none ∧ h = (k_T0.take 51, toM bU_127)) := by
  show cP k_P xs Ln (d + 0) 32 0 [(0, rf 46)] [] (k_T0.take 47, toM bU_116) _
  refine s_aload_n kx_32_0 rfl ?_
  refine b_obj kx_32_1 kp_32_3 (by decide) ?_
  refine s_aload_n kx_32_4 rfl ?_
  refine s_bipush (v := 64) kx_32_5 (by decide) ?_
  refine b_newI (i := 47) (M' := toM bU_117) kx_32_7 rfl (by decide) ⟨by decide, by decide⟩ rfl ?_
  refine s_putf (k := 46) (f := 0) (M' := toM bU_118) kx_32_9 kp_32_9 (bt_at rfl (by decide)) kf_4_0 rfl (Or.inr ⟨kn_32, ki_32⟩) rfl ?_
  refine s_aload_n kx_32_12 rfl ?_
  refine s_bipush (v := 64) kx_32_13 (by decide) ?_
  refine b_newI (i := 48) (M' := toM bU_119) kx_32_15 rfl (by decide) ⟨by decide, by decide⟩ rfl ?_
  refine s_putf (k := 46) (f := 1) (M' := toM bU_120) kx_32_17 kp_32_15 (bt_at rfl (by decide)) kf_4_1 rfl (Or.inr ⟨kn_32, ki_32⟩) rfl ?_
  refine s_aload_n kx_32_20 rfl ?_
  refine s_bipush (v := 8) kx_32_21 (by decide) ?_
  refine b_newI (i := 49) (M' := toM bU_121) kx_32_23 rfl (by decide) ⟨by decide, by decide⟩ rfl ?_
  refine s_putf (k := 46) (f := 2) (M' := toM bU_122) kx_32_25 kp_32_18 (bt_at rfl (by decide)) kf_4_2 rfl (Or.inr ⟨kn_32, ki_32⟩) rfl ?_
  refine s_aload_n kx_32_28 rfl ?_
  refine s_bipush (v := 8) kx_32_29 (by decide) ?_
  refine b_newI (i := 50) (M' := toM bU_123) kx_32_31 rfl (by decide) ⟨by decide, by decide⟩ rfl ?_
  refine s_putf (k := 46) (f := 3) (M' := toM bU_124) kx_32_33 kp_32_21 (bt_at rfl (by decide)) kf_4_3 rfl (Or.inr ⟨kn_32, ki_32⟩) rfl ?_
  refine s_aload_n kx_32_36 rfl ?_
  refine s_iconst (v := 0) kx_32_37 (by decide) ?_
  refine s_putf (k := 46) (f := 4) (M' := toM bU_125) kx_32_38 kp_32_24 (bt_at rfl (by decide)) kf_4_4 rfl (Or.inl (by decide)) rfl ?_
  refine s_aload_n kx_32_41 rfl ?_
  refine s_iconst (v := 0) kx_32_42 (by decide) ?_
  refine s_putf (k := 46) (f := 5) (M' := toM bU_126) kx_32_43 kp_32_28 (bt_at rfl (by decide)) kf_4_5 rfl (Or.inl (by decide)) rfl ?_
  refine s_aload_n kx_32_46 rfl ?_
  refine s_iconst (v := (-1)) kx_32_47 (by decide) ?_
  refine s_putf (k := 46) (f := 6) (M' := toM bU_127) kx_32_48 kp_32_31 (bt_at rfl (by decide)) kf_4_6 rfl (Or.inl (by decide)) rfl ?_
  exact s_vret kx_32_51 kq_32 ⟨rfl, rfl⟩
def bU_128 : bU := (0, 4, 46) :: bU_127
def bU_129 : bU := (51, 100000, 0) :: bU_128
def bU_130 : bU := (52, 100001, 0) :: bU_129
def bU_131 : bU := (51, 0, 52) :: bU_130
def bU_132 : bU := (53, 100001, 0) :: bU_131
def bU_133 : bU := (51, 1, 53) :: bU_132
def bU_134 : bU := (51, 2, 0) :: bU_133
theorem kp_135_39 : x_pool k_P 135 39 = (4, 32, 0) := by decide +kernel
theorem kcl_32 : x_maxL k_P 32 ≤ 60 ∧ 1 ≤ x_maxL k_P 32 := by decide +kernel
theorem kx_135_56 : x_code k_P 135 56 = some (.putfield 40, 3) := by decide +kernel
theorem kp_135_40 : x_pool k_P 135 40 = (1, 11, 4) := by decide +kernel
theorem kx_135_59 : x_code k_P 135 59 = some (.aload_n 0, 1) := by decide +kernel
theorem kx_135_60 : x_code k_P 135 60 = some (.new 44, 3) := by decide +kernel
theorem kp_135_44 : x_pool k_P 135 44 = (9, 0, 0) := by decide +kernel
theorem kx_135_63 : x_code k_P 135 63 = some (.dup, 1) := by decide +kernel
theorem kx_135_64 : x_code k_P 135 64 = some (.invokespecial 46, 3) := by decide +kernel
theorem kx_1_0 : x_code k_P 1 0 = some (.aload_n 0, 1) := by decide +kernel
theorem kx_1_1 : x_code k_P 1 1 = some (.invokespecial 3, 3) := by decide +kernel
theorem kp_1_3 : x_pool k_P 1 3 = (5, 0, 0) := by decide +kernel
theorem kx_1_4 : x_code k_P 1 4 = some (.aload_n 0, 1) := by decide +kernel
theorem kx_1_5 : x_code k_P 1 5 = some (.bipush 104, 2) := by decide +kernel
theorem kx_1_7 : x_code k_P 1 7 = some (.newarray .int, 2) := by decide +kernel
theorem kx_1_9 : x_code k_P 1 9 = some (.putfield 9, 3) := by decide +kernel
theorem kn_1 : (x_nm k_P 1).name = "<init>" := by decide +kernel
theorem ki_1 : x_mci k_P 1 = 0 := by decide +kernel
theorem kp_1_9 : x_pool k_P 1 9 = (1, 0, 0) := by decide +kernel
theorem kx_1_12 : x_code k_P 1 12 = some (.aload_n 0, 1) := by decide +kernel
theorem kx_1_13 : x_code k_P 1 13 = some (.bipush 12, 2) := by decide +kernel
theorem kx_1_15 : x_code k_P 1 15 = some (.newarray .int, 2) := by decide +kernel
theorem kx_1_17 : x_code k_P 1 17 = some (.putfield 15, 3) := by decide +kernel
theorem kp_1_15 : x_pool k_P 1 15 = (1, 0, 1) := by decide +kernel
theorem kx_1_20 : x_code k_P 1 20 = some (.aload_n 0, 1) := by decide +kernel
theorem kx_1_21 : x_code k_P 1 21 = some (.iconst 0, 1) := by decide +kernel
theorem kx_1_22 : x_code k_P 1 22 = some (.putfield 18, 3) := by decide +kernel
theorem kp_1_18 : x_pool k_P 1 18 = (1, 0, 2) := by decide +kernel
theorem kx_1_25 : x_code k_P 1 25 = some (.return_, 1) := by decide +kernel
theorem kq_1 : x_retk k_P 1 = 0 := by decide +kernel
set_option maxRecDepth 100000 in
theorem bi_15 {xs : Nat → Int} {Ln d : Nat} : cC k_P xs Ln (d + 0) 1 [rf 51] (k_T0.take 52, toM bU_129) (fun r h => r = none ∧ h = (k_T0.take 54, toM bU_134)) := by
  show cP k_P xs Ln (d + 0) 1 0 [(0, rf 51)] [] (k_T0.take 52, toM bU_129) _
  refine s_aload_n kx_1_0 rfl ?_
  refine b_obj kx_1_1 kp_1_3 (by decide) ?_
  refine s_aload_n kx_1_4 rfl ?_
  refine s_bipush (v := 104) kx_1_5 (by decide) ?_
  refine b_newI (i := 52) (M' := toM bU_130) kx_1_7 rfl (by decide) ⟨by decide, by decide⟩ rfl ?_
  refine s_putf (k := 51) (f := 0) (M' := toM bU_131) kx_1_9 kp_1_9 (bt_at rfl (by decide)) kf_0_0 rfl (Or.inr ⟨kn_1, ki_1⟩) rfl ?_
  refine s_aload_n kx_1_12 rfl ?_
  refine s_bipush (v := 12) kx_1_13 (by decide) ?_
  refine b_newI (i := 53) (M' := toM bU_132) kx_1_15 rfl (by decide) ⟨by decide, by decide⟩ rfl ?_
  refine s_putf (k := 51) (f := 1) (M' := toM bU_133) kx_1_17 kp_1_15 (bt_at rfl (by decide)) kf_0_1 rfl (Or.inr ⟨kn_1, ki_1⟩) rfl ?_
  refine s_aload_n kx_1_20 rfl ?_
  refine s_iconst (v := 0) kx_1_21 (by decide) ?_
  refine s_putf (k := 51) (f := 2) (M' := toM bU_134) kx_1_22 kp_1_18 (bt_at rfl (by decide)) kf_0_2 rfl (Or.inl (by decide)) rfl ?_
  exact s_vret kx_1_25 kq_1 ⟨rfl, rfl⟩
def bU_135 : bU := (0, 5, 51) :: bU_134
def bU_136 : bU := (54, 100000, 6) :: bU_135
def bU_137 : bU := (55, 100001, 0) :: bU_136
def bU_138 : bU := (54, 0, 55) :: bU_137
def bU_139 : bU := (56, 100001, 0) :: bU_138
def bU_140 : bU := (54, 1, 56) :: bU_139
def bU_141 : bU := (57, 100001, 0) :: bU_140
def bU_142 : bU := (54, 2, 57) :: bU_141
def bU_143 : bU := (58, 100001, 0) :: bU_142
def bU_144 : bU := (54, 3, 58) :: bU_143
def bU_145 : bU := (59, 100001, 0) :: bU_144
def bU_146 : bU := (54, 4, 59) :: bU_145
def bU_147 : bU := (60, 100001, 0) :: bU_146
def bU_148 : bU := (54, 5, 60) :: bU_147
def bU_149 : bU := (54, 6, 0) :: bU_148
def bU_150 : bU := (54, 7, 1) :: bU_149
theorem kp_135_46 : x_pool k_P 135 46 = (4, 1, 0) := by decide +kernel
theorem kcl_1 : x_maxL k_P 1 ≤ 60 ∧ 1 ≤ x_maxL k_P 1 := by decide +kernel
theorem kx_135_67 : x_code k_P 135 67 = some (.putfield 47, 3) := by decide +kernel
theorem kp_135_47 : x_pool k_P 135 47 = (1, 11, 5) := by decide +kernel
theorem kx_135_70 : x_code k_P 135 70 = some (.aload_n 0, 1) := by decide +kernel
theorem kx_135_71 : x_code k_P 135 71 = some (.new 51, 3) := by decide +kernel
theorem kp_135_51 : x_pool k_P 135 51 = (9, 6, 0) := by decide +kernel
theorem kx_135_74 : x_code k_P 135 74 = some (.dup, 1) := by decide +kernel
theorem kx_135_75 : x_code k_P 135 75 = some (.invokespecial 53, 3) := by decide +kernel
theorem kx_78_0 : x_code k_P 78 0 = some (.aload_n 0, 1) := by decide +kernel
theorem kx_78_1 : x_code k_P 78 1 = some (.invokespecial 3, 3) := by decide +kernel
theorem kp_78_3 : x_pool k_P 78 3 = (5, 0, 0) := by decide +kernel
theorem kx_78_4 : x_code k_P 78 4 = some (.aload_n 0, 1) := by decide +kernel
theorem kx_78_5 : x_code k_P 78 5 = some (.bipush 8, 2) := by decide +kernel
theorem kx_78_7 : x_code k_P 78 7 = some (.newarray .int, 2) := by decide +kernel
theorem kx_78_9 : x_code k_P 78 9 = some (.putfield 9, 3) := by decide +kernel
theorem kn_78 : (x_nm k_P 78).name = "<init>" := by decide +kernel
theorem ki_78 : x_mci k_P 78 = 6 := by decide +kernel
theorem kp_78_9 : x_pool k_P 78 9 = (1, 6, 0) := by decide +kernel
theorem kx_78_12 : x_code k_P 78 12 = some (.aload_n 0, 1) := by decide +kernel
theorem kx_78_13 : x_code k_P 78 13 = some (.bipush 8, 2) := by decide +kernel
theorem kx_78_15 : x_code k_P 78 15 = some (.newarray .int, 2) := by decide +kernel
theorem kx_78_17 : x_code k_P 78 17 = some (.putfield 15, 3) := by decide +kernel
theorem kp_78_15 : x_pool k_P 78 15 = (1, 6, 1) := by decide +kernel
theorem kx_78_20 : x_code k_P 78 20 = some (.aload_n 0, 1) := by decide +kernel
theorem kx_78_21 : x_code k_P 78 21 = some (.sipush 2048, 3) := by decide +kernel
theorem kx_78_24 : x_code k_P 78 24 = some (.newarray .int, 2) := by decide +kernel
theorem kx_78_26 : x_code k_P 78 26 = some (.putfield 18, 3) := by decide +kernel
theorem kp_78_18 : x_pool k_P 78 18 = (1, 6, 2) := by decide +kernel
theorem kx_78_29 : x_code k_P 78 29 = some (.aload_n 0, 1) := by decide +kernel
theorem kx_78_30 : x_code k_P 78 30 = some (.sipush 256, 3) := by decide +kernel
theorem kx_78_33 : x_code k_P 78 33 = some (.newarray .int, 2) := by decide +kernel
theorem kx_78_35 : x_code k_P 78 35 = some (.putfield 21, 3) := by decide +kernel
theorem kp_78_21 : x_pool k_P 78 21 = (1, 6, 3) := by decide +kernel
theorem kx_78_38 : x_code k_P 78 38 = some (.aload_n 0, 1) := by decide +kernel
theorem kx_78_39 : x_code k_P 78 39 = some (.sipush 256, 3) := by decide +kernel
theorem kx_78_42 : x_code k_P 78 42 = some (.newarray .int, 2) := by decide +kernel
theorem kx_78_44 : x_code k_P 78 44 = some (.putfield 24, 3) := by decide +kernel
theorem kp_78_24 : x_pool k_P 78 24 = (1, 6, 4) := by decide +kernel
theorem kx_78_47 : x_code k_P 78 47 = some (.aload_n 0, 1) := by decide +kernel
theorem kx_78_48 : x_code k_P 78 48 = some (.bipush 64, 2) := by decide +kernel
theorem kx_78_50 : x_code k_P 78 50 = some (.newarray .int, 2) := by decide +kernel
theorem kx_78_52 : x_code k_P 78 52 = some (.putfield 27, 3) := by decide +kernel
theorem kp_78_27 : x_pool k_P 78 27 = (1, 6, 5) := by decide +kernel
theorem kx_78_55 : x_code k_P 78 55 = some (.aload_n 0, 1) := by decide +kernel
theorem kx_78_56 : x_code k_P 78 56 = some (.iconst 0, 1) := by decide +kernel
theorem kx_78_57 : x_code k_P 78 57 = some (.putfield 30, 3) := by decide +kernel
theorem kp_78_30 : x_pool k_P 78 30 = (1, 6, 6) := by decide +kernel
theorem kx_78_60 : x_code k_P 78 60 = some (.aload_n 0, 1) := by decide +kernel
theorem kx_78_61 : x_code k_P 78 61 = some (.iconst 1, 1) := by decide +kernel
theorem kx_78_62 : x_code k_P 78 62 = some (.putfield 34, 3) := by decide +kernel
theorem kp_78_34 : x_pool k_P 78 34 = (1, 6, 7) := by decide +kernel
theorem kx_78_65 : x_code k_P 78 65 = some (.return_, 1) := by decide +kernel
theorem kq_78 : x_retk k_P 78 = 0 := by decide +kernel
set_option maxRecDepth 100000 in
theorem bi_16 {xs : Nat → Int} {Ln d : Nat} : cC k_P xs Ln (d + 0) 78 [rf 54] (k_T0.take 55, toM bU_136) (fun r h => r = none ∧ h = (k_T0.take 61, toM bU_150)) := by
  show cP k_P xs Ln (d + 0) 78 0 [(0, rf 54)] [] (k_T0.take 55, toM bU_136) _
  refine s_aload_n kx_78_0 rfl ?_
  refine b_obj kx_78_1 kp_78_3 (by decide) ?_
  refine s_aload_n kx_78_4 rfl ?_
  refine s_bipush (v := 8) kx_78_5 (by decide) ?_
  refine b_newI (i := 55) (M' := toM bU_137) kx_78_7 rfl (by decide) ⟨by decide, by decide⟩ rfl ?_
  refine s_putf (k := 54) (f := 0) (M' := toM bU_138) kx_78_9 kp_78_9 (bt_at rfl (by decide)) kf_6_0 rfl (Or.inr ⟨kn_78, ki_78⟩) rfl ?_
  refine s_aload_n kx_78_12 rfl ?_
  refine s_bipush (v := 8) kx_78_13 (by decide) ?_
  refine b_newI (i := 56) (M' := toM bU_139) kx_78_15 rfl (by decide) ⟨by decide, by decide⟩ rfl ?_
  refine s_putf (k := 54) (f := 1) (M' := toM bU_140) kx_78_17 kp_78_15 (bt_at rfl (by decide)) kf_6_1 rfl (Or.inr ⟨kn_78, ki_78⟩) rfl ?_
  refine s_aload_n kx_78_20 rfl ?_
  refine s_sipush (v := 2048) kx_78_21 (by decide) ?_
  refine b_newI (i := 57) (M' := toM bU_141) kx_78_24 rfl (by decide) ⟨by decide, by decide⟩ rfl ?_
  refine s_putf (k := 54) (f := 2) (M' := toM bU_142) kx_78_26 kp_78_18 (bt_at rfl (by decide)) kf_6_2 rfl (Or.inr ⟨kn_78, ki_78⟩) rfl ?_
  refine s_aload_n kx_78_29 rfl ?_
  refine s_sipush (v := 256) kx_78_30 (by decide) ?_
  refine b_newI (i := 58) (M' := toM bU_143) kx_78_33 rfl (by decide) ⟨by decide, by decide⟩ rfl ?_
  refine s_putf (k := 54) (f := 3) (M' := toM bU_144) kx_78_35 kp_78_21 (bt_at rfl (by decide)) kf_6_3 rfl (Or.inr ⟨kn_78, ki_78⟩) rfl ?_
  refine s_aload_n kx_78_38 rfl ?_
  refine s_sipush (v := 256) kx_78_39 (by decide) ?_
  refine b_newI (i := 59) (M' := toM bU_145) kx_78_42 rfl (by decide) ⟨by decide, by decide⟩ rfl ?_
  refine s_putf (k := 54) (f := 4) (M' := toM bU_146) kx_78_44 kp_78_24 (bt_at rfl (by decide)) kf_6_4 rfl (Or.inr ⟨kn_78, ki_78⟩) rfl ?_
  refine s_aload_n kx_78_47 rfl ?_
  refine s_bipush (v := 64) kx_78_48 (by decide) ?_
  refine b_newI (i := 60) (M' := toM bU_147) kx_78_50 rfl (by decide) ⟨by decide, by decide⟩ rfl ?_
  refine s_putf (k := 54) (f := 5) (M' := toM bU_148) kx_78_52 kp_78_27 (bt_at rfl (by decide)) kf_6_5 rfl (Or.inr ⟨kn_78, ki_78⟩) rfl ?_
  refine s_aload_n kx_78_55 rfl ?_
  refine s_iconst (v := 0) kx_78_56 (by decide) ?_
  refine s_putf (k := 54) (f := 6) (M' := toM bU_149) kx_78_57 kp_78_30 (bt_at rfl (by decide)) kf_6_6 rfl (Or.inl (by decide)) rfl ?_
  refine s_aload_n kx_78_60 rfl ?_
  refine s_iconst (v := 1) kx_78_61 (by decide) ?_
  refine s_putf (k := 54) (f := 7) (M' := toM bU_150) kx_78_62 kp_78_34 (bt_at rfl (by decide)) kf_6_7 rfl (Or.inl (by decide)) rfl ?_
  exact s_vret kx_78_65 kq_78 ⟨rfl, rfl⟩
def bU_151 : bU := (0, 6, 54) :: bU_150
def bU_152 : bU := (61, 100001, 0) :: bU_151
def bU_153 : bU := (0, 7, 61) :: bU_152
def bU_154 : bU := (62, 100001, 0) :: bU_153
def bU_155 : bU := (0, 8, 62) :: bU_154
def bU_156 : bU := (0, 9, 0) :: bU_155
def bU_157 : bU := (0, 10, 0) :: bU_156
def bU_158 : bU := (0, 11, (-1)) :: bU_157
def bU_159 : bU := (0, 12, 1) :: bU_158
theorem kp_135_53 : x_pool k_P 135 53 = (4, 78, 0) := by decide +kernel
theorem kcl_78 : x_maxL k_P 78 ≤ 60 ∧ 1 ≤ x_maxL k_P 78 := by decide +kernel
theorem kx_135_78 : x_code k_P 135 78 = some (.putfield 54, 3) := by decide +kernel
theorem kp_135_54 : x_pool k_P 135 54 = (1, 11, 6) := by decide +kernel
theorem kx_135_81 : x_code k_P 135 81 = some (.aload_n 0, 1) := by decide +kernel
theorem kx_135_82 : x_code k_P 135 82 = some (.bipush 6, 2) := by decide +kernel
theorem kx_135_84 : x_code k_P 135 84 = some (.newarray .int, 2) := by decide +kernel
theorem kx_135_86 : x_code k_P 135 86 = some (.putfield 58, 3) := by decide +kernel
theorem kp_135_58 : x_pool k_P 135 58 = (1, 11, 7) := by decide +kernel
theorem kx_135_89 : x_code k_P 135 89 = some (.aload_n 0, 1) := by decide +kernel
theorem kx_135_90 : x_code k_P 135 90 = some (.bipush 73, 2) := by decide +kernel
theorem kx_135_92 : x_code k_P 135 92 = some (.newarray .int, 2) := by decide +kernel
theorem kx_135_94 : x_code k_P 135 94 = some (.putfield 62, 3) := by decide +kernel
theorem kp_135_62 : x_pool k_P 135 62 = (1, 11, 8) := by decide +kernel
theorem kx_135_97 : x_code k_P 135 97 = some (.aload_n 0, 1) := by decide +kernel
theorem kx_135_98 : x_code k_P 135 98 = some (.iconst 0, 1) := by decide +kernel
theorem kx_135_99 : x_code k_P 135 99 = some (.putfield 65, 3) := by decide +kernel
theorem kp_135_65 : x_pool k_P 135 65 = (1, 11, 9) := by decide +kernel
theorem kx_135_102 : x_code k_P 135 102 = some (.aload_n 0, 1) := by decide +kernel
theorem kx_135_103 : x_code k_P 135 103 = some (.iconst 0, 1) := by decide +kernel
theorem kx_135_104 : x_code k_P 135 104 = some (.putfield 69, 3) := by decide +kernel
theorem kp_135_69 : x_pool k_P 135 69 = (1, 11, 10) := by decide +kernel
theorem kx_135_107 : x_code k_P 135 107 = some (.aload_n 0, 1) := by decide +kernel
theorem kx_135_108 : x_code k_P 135 108 = some (.iconst (-1), 1) := by decide +kernel
theorem kx_135_109 : x_code k_P 135 109 = some (.putfield 72, 3) := by decide +kernel
theorem kp_135_72 : x_pool k_P 135 72 = (1, 11, 11) := by decide +kernel
theorem kx_135_112 : x_code k_P 135 112 = some (.aload_n 0, 1) := by decide +kernel
theorem kx_135_113 : x_code k_P 135 113 = some (.iconst 1, 1) := by decide +kernel
theorem kx_135_114 : x_code k_P 135 114 = some (.putfield 75, 3) := by decide +kernel
theorem kp_135_75 : x_pool k_P 135 75 = (1, 11, 12) := by decide +kernel
theorem kx_135_117 : x_code k_P 135 117 = some (.return_, 1) := by decide +kernel
theorem kq_135 : x_retk k_P 135 = 0 := by decide +kernel
set_option maxRecDepth 100000 in
theorem bi_1 {xs : Nat → Int} {Ln d : Nat} : cC k_P xs Ln (d + 3) 135 [rf 0] (k_T0.take 1, toM bU_1) (fun r h => r = none ∧ h = (k_T0.take 63, toM bU_159)) := by
  show cP k_P xs Ln (d + 3) 135 0 [(0, rf 0)] [] (k_T0.take 1, toM bU_1) _
  refine s_aload_n kx_135_0 rfl ?_
  refine b_obj kx_135_1 kp_135_1 (by decide) ?_
  refine s_aload_n kx_135_4 rfl ?_
  refine b_newo (i := 1) (M' := toM bU_2) kx_135_5 kp_135_7 rfl (by decide) rfl ?_
  refine s_dup kx_135_8 rfl ?_
  refine b_callI (T1 := k_T0.take 3) (M1 := toM bU_5) kx_135_9 kp_135_9 (by decide) kcl_102 (by decide) (bi_2 (d := d + 2)) ?_
  refine s_putf (k := 0) (f := 0) (M' := toM bU_6) kx_135_12 kp_135_10 (bt_at rfl (by decide)) kf_11_0 rfl (Or.inr ⟨kn_135, ki_135⟩) rfl ?_
  refine s_aload_n kx_135_15 rfl ?_
  refine b_newo (i := 3) (M' := toM bU_7) kx_135_16 kp_135_16 rfl (by decide) rfl ?_
  refine s_dup kx_135_19 rfl ?_
  refine b_callI (T1 := k_T0.take 7) (M1 := toM bU_22) kx_135_20 kp_135_18 (by decide) kcl_120 (by decide) (bi_3 (d := d)) ?_
  refine s_putf (k := 0) (f := 1) (M' := toM bU_23) kx_135_23 kp_135_19 (bt_at rfl (by decide)) kf_11_1 rfl (Or.inr ⟨kn_135, ki_135⟩) rfl ?_
  refine s_aload_n kx_135_26 rfl ?_
  refine b_newo (i := 7) (M' := toM bU_24) kx_135_27 kp_135_23 rfl (by decide) rfl ?_
  refine s_dup kx_135_30 rfl ?_
  refine b_callI (T1 := k_T0.take 44) (M1 := toM bU_108) kx_135_31 kp_135_25 (by decide) kcl_41 (by decide) (bi_6 (d := d)) ?_
  refine s_putf (k := 0) (f := 2) (M' := toM bU_109) kx_135_34 kp_135_26 (bt_at rfl (by decide)) kf_11_2 rfl (Or.inr ⟨kn_135, ki_135⟩) rfl ?_
  refine s_aload_n kx_135_37 rfl ?_
  refine b_newo (i := 44) (M' := toM bU_110) kx_135_38 kp_135_30 rfl (by decide) rfl ?_
  refine s_dup kx_135_41 rfl ?_
  refine b_callI (T1 := k_T0.take 46) (M1 := toM bU_114) kx_135_42 kp_135_32 (by decide) kcl_15 (by decide) (bi_13 (d := d + 2)) ?_
  refine s_putf (k := 0) (f := 3) (M' := toM bU_115) kx_135_45 kp_135_33 (bt_at rfl (by decide)) kf_11_3 rfl (Or.inr ⟨kn_135, ki_135⟩) rfl ?_
  refine s_aload_n kx_135_48 rfl ?_
  refine b_newo (i := 46) (M' := toM bU_116) kx_135_49 kp_135_37 rfl (by decide) rfl ?_
  refine s_dup kx_135_52 rfl ?_
  refine b_callI (T1 := k_T0.take 51) (M1 := toM bU_127) kx_135_53 kp_135_39 (by decide) kcl_32 (by decide) (bi_14 (d := d + 2)) ?_
  refine s_putf (k := 0) (f := 4) (M' := toM bU_128) kx_135_56 kp_135_40 (bt_at rfl (by decide)) kf_11_4 rfl (Or.inr ⟨kn_135, ki_135⟩) rfl ?_
  refine s_aload_n kx_135_59 rfl ?_
  refine b_newo (i := 51) (M' := toM bU_129) kx_135_60 kp_135_44 rfl (by decide) rfl ?_
  refine s_dup kx_135_63 rfl ?_
  refine b_callI (T1 := k_T0.take 54) (M1 := toM bU_134) kx_135_64 kp_135_46 (by decide) kcl_1 (by decide) (bi_15 (d := d + 2)) ?_
  refine s_putf (k := 0) (f := 5) (M' := toM bU_135) kx_135_67 kp_135_47 (bt_at rfl (by decide)) kf_11_5 rfl (Or.inr ⟨kn_135, ki_135⟩) rfl ?_
  refine s_aload_n kx_135_70 rfl ?_
  refine b_newo (i := 54) (M' := toM bU_136) kx_135_71 kp_135_51 rfl (by decide) rfl ?_
  refine s_dup kx_135_74 rfl ?_
  refine b_callI (T1 := k_T0.take 61) (M1 := toM bU_150) kx_135_75 kp_135_53 (by decide) kcl_78 (by decide) (bi_16 (d := d + 2)) ?_
  refine s_putf (k := 0) (f := 6) (M' := toM bU_151) kx_135_78 kp_135_54 (bt_at rfl (by decide)) kf_11_6 rfl (Or.inr ⟨kn_135, ki_135⟩) rfl ?_
  refine s_aload_n kx_135_81 rfl ?_
  refine s_bipush (v := 6) kx_135_82 (by decide) ?_
  refine b_newI (i := 61) (M' := toM bU_152) kx_135_84 rfl (by decide) ⟨by decide, by decide⟩ rfl ?_
  refine s_putf (k := 0) (f := 7) (M' := toM bU_153) kx_135_86 kp_135_58 (bt_at rfl (by decide)) kf_11_7 rfl (Or.inr ⟨kn_135, ki_135⟩) rfl ?_
  refine s_aload_n kx_135_89 rfl ?_
  refine s_bipush (v := 73) kx_135_90 (by decide) ?_
  refine b_newI (i := 62) (M' := toM bU_154) kx_135_92 rfl (by decide) ⟨by decide, by decide⟩ rfl ?_
  refine s_putf (k := 0) (f := 8) (M' := toM bU_155) kx_135_94 kp_135_62 (bt_at rfl (by decide)) kf_11_8 rfl (Or.inr ⟨kn_135, ki_135⟩) rfl ?_
  refine s_aload_n kx_135_97 rfl ?_
  refine s_iconst (v := 0) kx_135_98 (by decide) ?_
  refine s_putf (k := 0) (f := 9) (M' := toM bU_156) kx_135_99 kp_135_65 (bt_at rfl (by decide)) kf_11_9 rfl (Or.inl (by decide)) rfl ?_
  refine s_aload_n kx_135_102 rfl ?_
  refine s_iconst (v := 0) kx_135_103 (by decide) ?_
  refine s_putf (k := 0) (f := 10) (M' := toM bU_157) kx_135_104 kp_135_69 (bt_at rfl (by decide)) kf_11_10 rfl (Or.inl (by decide)) rfl ?_
  refine s_aload_n kx_135_107 rfl ?_
  refine s_iconst (v := (-1)) kx_135_108 (by decide) ?_
  refine s_putf (k := 0) (f := 11) (M' := toM bU_158) kx_135_109 kp_135_72 (bt_at rfl (by decide)) kf_11_11 rfl (Or.inl (by decide)) rfl ?_
  refine s_aload_n kx_135_112 rfl ?_
  refine s_iconst (v := 1) kx_135_113 (by decide) ?_
  refine s_putf (k := 0) (f := 12) (M' := toM bU_159) kx_135_114 kp_135_75 (bt_at rfl (by decide)) kf_11_12 rfl (Or.inl (by decide)) rfl ?_
  exact s_vret kx_135_117 kq_135 ⟨rfl, rfl⟩
def bU_160 : bU := (63, 100000, 12) :: bU_159
def bU_161 : bU := (64, 100001, 0) :: bU_160
def bU_162 : bU := (63, 0, 64) :: bU_161
def bU_163 : bU := (63, 1, 0) :: bU_162
def bU_164 : bU := (63, 2, 0) :: bU_163
def bU_165 : bU := (63, 3, 0) :: bU_164
def bU_166 : bU := (63, 4, 0) :: bU_165
def bU_167 : bU := (63, 5, 0) :: bU_166
def bU_168 : bU := (63, 6, 0) :: bU_167
def bU_169 : bU := (63, 7, 0) :: bU_168
def bU_170 : bU := (63, 8, 0) :: bU_169
def bU_171 : bU := (63, 9, 0) :: bU_170
def bU_172 : bU := (63, 10, (-1)) :: bU_171
def bU_173 : bU := (63, 11, 0) :: bU_172
def bU_174 : bU := (63, 12, (-1)) :: bU_173
def bU_175 : bU := (63, 13, (-1)) :: bU_174
def bU_176 : bU := (63, 14, 0) :: bU_175
def bU_177 : bU := (65, 100001, 0) :: bU_176
def bU_178 : bU := (63, 15, 65) :: bU_177
def bU_179 : bU := (66, 100001, 0) :: bU_178
def bU_180 : bU := (63, 16, 66) :: bU_179
def bU_181 : bU := (67, 100001, 0) :: bU_180
def bU_182 : bU := (63, 17, 67) :: bU_181
def bU_183 : bU := (68, 100001, 0) :: bU_182
def bU_184 : bU := (63, 18, 68) :: bU_183
def bU_185 : bU := (69, 100001, 0) :: bU_184
def bU_186 : bU := (63, 19, 69) :: bU_185
def bU_187 : bU := (70, 100001, 0) :: bU_186
def bU_188 : bU := (63, 20, 70) :: bU_187
def bU_189 : bU := (71, 100001, 0) :: bU_188
def bU_190 : bU := (63, 21, 71) :: bU_189
def bU_191 : bU := (72, 100001, 0) :: bU_190
def bU_192 : bU := (63, 22, 72) :: bU_191
def bU_193 : bU := (73, 100001, 0) :: bU_192
def bU_194 : bU := (63, 23, 73) :: bU_193
def bU_195 : bU := (74, 100001, 0) :: bU_194
def bU_196 : bU := (63, 24, 74) :: bU_195
def bU_197 : bU := (75, 100001, 0) :: bU_196
def bU_198 : bU := (63, 25, 75) :: bU_197
def bU_199 : bU := (76, 100001, 0) :: bU_198
def bU_200 : bU := (63, 26, 76) :: bU_199
def bU_201 : bU := (77, 100001, 0) :: bU_200
def bU_202 : bU := (63, 27, 77) :: bU_201
def bU_203 : bU := (78, 100001, 0) :: bU_202
def bU_204 : bU := (63, 28, 78) :: bU_203
def bU_205 : bU := (79, 100001, 0) :: bU_204
def bU_206 : bU := (63, 29, 79) :: bU_205
def bU_207 : bU := (80, 100001, 0) :: bU_206
def bU_208 : bU := (63, 30, 80) :: bU_207
def bU_209 : bU := (81, 100001, 0) :: bU_208
def bU_210 : bU := (63, 31, 81) :: bU_209
def bU_211 : bU := (82, 100001, 0) :: bU_210
def bU_212 : bU := (63, 32, 82) :: bU_211
def bU_213 : bU := (83, 100001, 0) :: bU_212
def bU_214 : bU := (63, 33, 83) :: bU_213
def bU_215 : bU := (84, 100001, 0) :: bU_214
def bU_216 : bU := (63, 34, 84) :: bU_215
def bU_217 : bU := (63, 35, 0) :: bU_216
def bU_218 : bU := (63, 36, 1) :: bU_217
def bU_219 : bU := (85, 100001, 0) :: bU_218
def bU_220 : bU := (63, 37, 85) :: bU_219
def bU_221 : bU := (86, 100001, 0) :: bU_220
def bU_222 : bU := (63, 38, 86) :: bU_221
def bU_223 : bU := (87, 100001, 0) :: bU_222
def bU_224 : bU := (63, 39, 87) :: bU_223
def bU_225 : bU := (88, 100001, 0) :: bU_224
def bU_226 : bU := (63, 40, 88) :: bU_225
def bU_227 : bU := (89, 100001, 0) :: bU_226
def bU_228 : bU := (63, 41, 89) :: bU_227
def bU_229 : bU := (63, 42, 0) :: bU_228
def bU_230 : bU := (63, 43, 0) :: bU_229
def bU_231 : bU := (90, 100001, 0) :: bU_230
def bU_232 : bU := (63, 44, 90) :: bU_231
def bU_233 : bU := (63, 45, 0) :: bU_232
def bU_234 : bU := (63, 46, 0) :: bU_233
def bU_235 : bU := (91, 100001, 0) :: bU_234
def bU_236 : bU := (63, 47, 91) :: bU_235
def bU_237 : bU := (92, 100001, 0) :: bU_236
def bU_238 : bU := (63, 48, 92) :: bU_237
def bU_239 : bU := (93, 100001, 0) :: bU_238
def bU_240 : bU := (63, 49, 93) :: bU_239
def bU_241 : bU := (94, 100001, 0) :: bU_240
def bU_242 : bU := (63, 50, 94) :: bU_241
def bU_243 : bU := (95, 100001, 0) :: bU_242
def bU_244 : bU := (63, 51, 95) :: bU_243
def bU_245 : bU := (96, 100001, 0) :: bU_244
def bU_246 : bU := (63, 52, 96) :: bU_245
def bU_247 : bU := (97, 100001, 0) :: bU_246
def bU_248 : bU := (63, 53, 97) :: bU_247
def bU_249 : bU := (98, 100001, 0) :: bU_248
def bU_250 : bU := (63, 54, 98) :: bU_249
def bU_251 : bU := (99, 100001, 0) :: bU_250
def bU_252 : bU := (63, 55, 99) :: bU_251
def bU_253 : bU := (100, 100001, 0) :: bU_252
def bU_254 : bU := (63, 56, 100) :: bU_253
def bU_255 : bU := (101, 100001, 0) :: bU_254
def bU_256 : bU := (63, 57, 101) :: bU_255
def bU_257 : bU := (63, 58, 0) :: bU_256
def bU_258 : bU := (63, 59, 0) :: bU_257
def bU_259 : bU := (63, 60, 1) :: bU_258
def bU_260 : bU := (102, 100001, 0) :: bU_259
def bU_261 : bU := (63, 61, 102) :: bU_260
def bU_262 : bU := (63, 62, 0) :: bU_261
def bU_263 : bU := (63, 63, 0) :: bU_262
def bU_264 : bU := (63, 64, 0) :: bU_263
def bU_265 : bU := (103, 100001, 0) :: bU_264
def bU_266 : bU := (63, 65, 103) :: bU_265
def bU_267 : bU := (104, 100001, 0) :: bU_266
def bU_268 : bU := (63, 66, 104) :: bU_267
def bU_269 : bU := (105, 100001, 0) :: bU_268
def bU_270 : bU := (63, 67, 105) :: bU_269
def bU_271 : bU := (63, 68, 0) :: bU_270
def bU_272 : bU := (106, 100001, 0) :: bU_271
def bU_273 : bU := (63, 69, 106) :: bU_272
def bU_274 : bU := (63, 70, 0) :: bU_273
def bU_275 : bU := (107, 100001, 0) :: bU_274
def bU_276 : bU := (63, 71, 107) :: bU_275
def bU_277 : bU := (63, 72, 0) :: bU_276
def bU_278 : bU := (108, 100001, 0) :: bU_277
def bU_279 : bU := (63, 73, 108) :: bU_278
def bU_280 : bU := (109, 100001, 0) :: bU_279
def bU_281 : bU := (63, 74, 109) :: bU_280
def bU_282 : bU := (110, 100001, 0) :: bU_281
def bU_283 : bU := (63, 75, 110) :: bU_282
def bU_284 : bU := (111, 100001, 0) :: bU_283
def bU_285 : bU := (63, 76, 111) :: bU_284
def bU_286 : bU := (112, 100001, 0) :: bU_285
def bU_287 : bU := (63, 77, 112) :: bU_286
def bU_288 : bU := (113, 100001, 0) :: bU_287
def bU_289 : bU := (63, 78, 113) :: bU_288
def bU_290 : bU := (63, 79, 0) :: bU_289
def bU_291 : bU := (75, 0, (-1)) :: bU_290
def bU_292 : bU := (77, 0, (-1)) :: bU_291
def bU_293 : bU := (80, 0, (-1)) :: bU_292
def bU_294 : bU := (74, 0, (-1)) :: bU_293
def bU_295 : bU := (74, 1, (-1)) :: bU_294
def bU_296 : bU := (74, 2, (-1)) :: bU_295
def bU_297 : bU := (74, 3, (-1)) :: bU_296
def bU_298 : bU := (74, 4, (-1)) :: bU_297
def bU_299 : bU := (74, 5, (-1)) :: bU_298
def bU_300 : bU := (74, 6, (-1)) :: bU_299
def bU_301 : bU := (74, 7, (-1)) :: bU_300
def bU_302 : bU := (74, 8, (-1)) :: bU_301
def bU_303 : bU := (74, 9, (-1)) :: bU_302
def bU_304 : bU := (74, 10, (-1)) :: bU_303
def bU_305 : bU := (74, 11, (-1)) :: bU_304
def bU_306 : bU := (74, 12, (-1)) :: bU_305
def bU_307 : bU := (74, 13, (-1)) :: bU_306
def bU_308 : bU := (74, 14, (-1)) :: bU_307
def bU_309 : bU := (74, 15, (-1)) :: bU_308
theorem kp_0_9 : x_pool k_P 0 9 = (3, 135, 0) := by decide +kernel
theorem kcl_135 : x_maxL k_P 135 ≤ 60 ∧ 1 ≤ x_maxL k_P 135 := by decide +kernel
theorem kx_0_7 : x_code k_P 0 7 = some (.astore_n 1, 1) := by decide +kernel
theorem km_0_1 : 1 < x_maxL k_P 0 := by decide +kernel
theorem kx_0_8 : x_code k_P 0 8 = some (.new 10, 3) := by decide +kernel
theorem kp_0_10 : x_pool k_P 0 10 = (9, 12, 0) := by decide +kernel
theorem kx_0_11 : x_code k_P 0 11 = some (.dup, 1) := by decide +kernel
theorem kx_0_12 : x_code k_P 0 12 = some (.invokespecial 12, 3) := by decide +kernel
theorem kx_171_0 : x_code k_P 171 0 = some (.aload_n 0, 1) := by decide +kernel
theorem kx_171_1 : x_code k_P 171 1 = some (.invokespecial 1, 3) := by decide +kernel
theorem kp_171_1 : x_pool k_P 171 1 = (5, 0, 0) := by decide +kernel
theorem kx_171_4 : x_code k_P 171 4 = some (.aload_n 0, 1) := by decide +kernel
theorem kx_171_5 : x_code k_P 171 5 = some (.sipush 1800, 3) := by decide +kernel
theorem kx_171_8 : x_code k_P 171 8 = some (.newarray .int, 2) := by decide +kernel
theorem kx_171_10 : x_code k_P 171 10 = some (.putfield 7, 3) := by decide +kernel
theorem kn_171 : (x_nm k_P 171).name = "<init>" := by decide +kernel
theorem ki_171 : x_mci k_P 171 = 12 := by decide +kernel
theorem kp_171_7 : x_pool k_P 171 7 = (1, 12, 0) := by decide +kernel
theorem kx_171_13 : x_code k_P 171 13 = some (.aload_n 0, 1) := by decide +kernel
theorem kx_171_14 : x_code k_P 171 14 = some (.iconst 0, 1) := by decide +kernel
theorem kx_171_15 : x_code k_P 171 15 = some (.putfield 13, 3) := by decide +kernel
theorem kp_171_13 : x_pool k_P 171 13 = (1, 12, 1) := by decide +kernel
theorem kx_171_18 : x_code k_P 171 18 = some (.aload_n 0, 1) := by decide +kernel
theorem kx_171_19 : x_code k_P 171 19 = some (.iconst 0, 1) := by decide +kernel
theorem kx_171_20 : x_code k_P 171 20 = some (.putfield 17, 3) := by decide +kernel
theorem kp_171_17 : x_pool k_P 171 17 = (1, 12, 2) := by decide +kernel
theorem kx_171_23 : x_code k_P 171 23 = some (.aload_n 0, 1) := by decide +kernel
theorem kx_171_24 : x_code k_P 171 24 = some (.iconst 0, 1) := by decide +kernel
theorem kx_171_25 : x_code k_P 171 25 = some (.putfield 20, 3) := by decide +kernel
theorem kp_171_20 : x_pool k_P 171 20 = (1, 12, 3) := by decide +kernel
theorem kx_171_28 : x_code k_P 171 28 = some (.aload_n 0, 1) := by decide +kernel
theorem kx_171_29 : x_code k_P 171 29 = some (.iconst 0, 1) := by decide +kernel
theorem kx_171_30 : x_code k_P 171 30 = some (.putfield 23, 3) := by decide +kernel
theorem kp_171_23 : x_pool k_P 171 23 = (1, 12, 4) := by decide +kernel
theorem kx_171_33 : x_code k_P 171 33 = some (.aload_n 0, 1) := by decide +kernel
theorem kx_171_34 : x_code k_P 171 34 = some (.iconst 0, 1) := by decide +kernel
theorem kx_171_35 : x_code k_P 171 35 = some (.putfield 26, 3) := by decide +kernel
theorem kp_171_26 : x_pool k_P 171 26 = (1, 12, 5) := by decide +kernel
theorem kx_171_38 : x_code k_P 171 38 = some (.aload_n 0, 1) := by decide +kernel
theorem kx_171_39 : x_code k_P 171 39 = some (.iconst 0, 1) := by decide +kernel
theorem kx_171_40 : x_code k_P 171 40 = some (.putfield 29, 3) := by decide +kernel
theorem kp_171_29 : x_pool k_P 171 29 = (1, 12, 6) := by decide +kernel
theorem kx_171_43 : x_code k_P 171 43 = some (.aload_n 0, 1) := by decide +kernel
theorem kx_171_44 : x_code k_P 171 44 = some (.lconst 0, 1) := by decide +kernel
theorem kx_171_45 : x_code k_P 171 45 = some (.putfield 32, 3) := by decide +kernel
theorem kp_171_32 : x_pool k_P 171 32 = (1, 12, 7) := by decide +kernel
theorem kx_171_48 : x_code k_P 171 48 = some (.aload_n 0, 1) := by decide +kernel
theorem kx_171_49 : x_code k_P 171 49 = some (.iconst 0, 1) := by decide +kernel
theorem kx_171_50 : x_code k_P 171 50 = some (.putfield 36, 3) := by decide +kernel
theorem kp_171_36 : x_pool k_P 171 36 = (1, 12, 8) := by decide +kernel
theorem kx_171_53 : x_code k_P 171 53 = some (.aload_n 0, 1) := by decide +kernel
theorem kx_171_54 : x_code k_P 171 54 = some (.iconst 0, 1) := by decide +kernel
theorem kx_171_55 : x_code k_P 171 55 = some (.putfield 39, 3) := by decide +kernel
theorem kp_171_39 : x_pool k_P 171 39 = (1, 12, 9) := by decide +kernel
theorem kx_171_58 : x_code k_P 171 58 = some (.aload_n 0, 1) := by decide +kernel
theorem kx_171_59 : x_code k_P 171 59 = some (.iconst (-1), 1) := by decide +kernel
theorem kx_171_60 : x_code k_P 171 60 = some (.putfield 42, 3) := by decide +kernel
theorem kp_171_42 : x_pool k_P 171 42 = (1, 12, 10) := by decide +kernel
theorem kx_171_63 : x_code k_P 171 63 = some (.aload_n 0, 1) := by decide +kernel
theorem kx_171_64 : x_code k_P 171 64 = some (.iconst 0, 1) := by decide +kernel
theorem kx_171_65 : x_code k_P 171 65 = some (.putfield 45, 3) := by decide +kernel
theorem kp_171_45 : x_pool k_P 171 45 = (1, 12, 11) := by decide +kernel
theorem kx_171_68 : x_code k_P 171 68 = some (.aload_n 0, 1) := by decide +kernel
theorem kx_171_69 : x_code k_P 171 69 = some (.iconst (-1), 1) := by decide +kernel
theorem kx_171_70 : x_code k_P 171 70 = some (.putfield 48, 3) := by decide +kernel
theorem kp_171_48 : x_pool k_P 171 48 = (1, 12, 12) := by decide +kernel
theorem kx_171_73 : x_code k_P 171 73 = some (.aload_n 0, 1) := by decide +kernel
theorem kx_171_74 : x_code k_P 171 74 = some (.iconst (-1), 1) := by decide +kernel
theorem kx_171_75 : x_code k_P 171 75 = some (.putfield 51, 3) := by decide +kernel
theorem kp_171_51 : x_pool k_P 171 51 = (1, 12, 13) := by decide +kernel
theorem kx_171_78 : x_code k_P 171 78 = some (.aload_n 0, 1) := by decide +kernel
theorem kx_171_79 : x_code k_P 171 79 = some (.iconst 0, 1) := by decide +kernel
theorem kx_171_80 : x_code k_P 171 80 = some (.putfield 54, 3) := by decide +kernel
theorem kp_171_54 : x_pool k_P 171 54 = (1, 12, 14) := by decide +kernel
theorem kx_171_83 : x_code k_P 171 83 = some (.aload_n 0, 1) := by decide +kernel
theorem kx_171_84 : x_code k_P 171 84 = some (.iconst 2, 1) := by decide +kernel
theorem kx_171_85 : x_code k_P 171 85 = some (.newarray .int, 2) := by decide +kernel
theorem kx_171_87 : x_code k_P 171 87 = some (.putfield 57, 3) := by decide +kernel
theorem kp_171_57 : x_pool k_P 171 57 = (1, 12, 15) := by decide +kernel
theorem kx_171_90 : x_code k_P 171 90 = some (.aload_n 0, 1) := by decide +kernel
theorem kx_171_91 : x_code k_P 171 91 = some (.bipush 16, 2) := by decide +kernel
theorem kx_171_93 : x_code k_P 171 93 = some (.newarray .int, 2) := by decide +kernel
theorem kx_171_95 : x_code k_P 171 95 = some (.putfield 60, 3) := by decide +kernel
theorem kp_171_60 : x_pool k_P 171 60 = (1, 12, 16) := by decide +kernel
theorem kx_171_98 : x_code k_P 171 98 = some (.aload_n 0, 1) := by decide +kernel
theorem kx_171_99 : x_code k_P 171 99 = some (.bipush 16, 2) := by decide +kernel
theorem kx_171_101 : x_code k_P 171 101 = some (.newarray .int, 2) := by decide +kernel
theorem kx_171_103 : x_code k_P 171 103 = some (.putfield 63, 3) := by decide +kernel
theorem kp_171_63 : x_pool k_P 171 63 = (1, 12, 17) := by decide +kernel
theorem kx_171_106 : x_code k_P 171 106 = some (.aload_n 0, 1) := by decide +kernel
theorem kx_171_107 : x_code k_P 171 107 = some (.sipush 128, 3) := by decide +kernel
theorem kx_171_110 : x_code k_P 171 110 = some (.newarray .int, 2) := by decide +kernel
theorem kx_171_112 : x_code k_P 171 112 = some (.putfield 66, 3) := by decide +kernel
theorem kp_171_66 : x_pool k_P 171 66 = (1, 12, 18) := by decide +kernel
theorem kx_171_115 : x_code k_P 171 115 = some (.aload_n 0, 1) := by decide +kernel
theorem kx_171_116 : x_code k_P 171 116 = some (.iconst 2, 1) := by decide +kernel
theorem kx_171_117 : x_code k_P 171 117 = some (.newarray .int, 2) := by decide +kernel
theorem kx_171_119 : x_code k_P 171 119 = some (.putfield 69, 3) := by decide +kernel
theorem kp_171_69 : x_pool k_P 171 69 = (1, 12, 19) := by decide +kernel
theorem kx_171_122 : x_code k_P 171 122 = some (.aload_n 0, 1) := by decide +kernel
theorem kx_171_123 : x_code k_P 171 123 = some (.bipush 16, 2) := by decide +kernel
theorem kx_171_125 : x_code k_P 171 125 = some (.newarray .int, 2) := by decide +kernel
theorem kx_171_127 : x_code k_P 171 127 = some (.putfield 72, 3) := by decide +kernel
theorem kp_171_72 : x_pool k_P 171 72 = (1, 12, 20) := by decide +kernel
theorem kx_171_130 : x_code k_P 171 130 = some (.aload_n 0, 1) := by decide +kernel
theorem kx_171_131 : x_code k_P 171 131 = some (.bipush 16, 2) := by decide +kernel
theorem kx_171_133 : x_code k_P 171 133 = some (.newarray .int, 2) := by decide +kernel
theorem kx_171_135 : x_code k_P 171 135 = some (.putfield 75, 3) := by decide +kernel
theorem kp_171_75 : x_pool k_P 171 75 = (1, 12, 21) := by decide +kernel
theorem kx_171_138 : x_code k_P 171 138 = some (.aload_n 0, 1) := by decide +kernel
theorem kx_171_139 : x_code k_P 171 139 = some (.bipush 16, 2) := by decide +kernel
theorem kx_171_141 : x_code k_P 171 141 = some (.newarray .int, 2) := by decide +kernel
theorem kx_171_143 : x_code k_P 171 143 = some (.putfield 78, 3) := by decide +kernel
theorem kp_171_78 : x_pool k_P 171 78 = (1, 12, 22) := by decide +kernel
theorem kx_171_146 : x_code k_P 171 146 = some (.aload_n 0, 1) := by decide +kernel
theorem kx_171_147 : x_code k_P 171 147 = some (.bipush 16, 2) := by decide +kernel
theorem kx_171_149 : x_code k_P 171 149 = some (.newarray .int, 2) := by decide +kernel
theorem kx_171_151 : x_code k_P 171 151 = some (.putfield 81, 3) := by decide +kernel
theorem kp_171_81 : x_pool k_P 171 81 = (1, 12, 23) := by decide +kernel
theorem kx_171_154 : x_code k_P 171 154 = some (.aload_n 0, 1) := by decide +kernel
theorem kx_171_155 : x_code k_P 171 155 = some (.bipush 16, 2) := by decide +kernel
theorem kx_171_157 : x_code k_P 171 157 = some (.newarray .int, 2) := by decide +kernel
theorem kx_171_159 : x_code k_P 171 159 = some (.putfield 84, 3) := by decide +kernel
theorem kp_171_84 : x_pool k_P 171 84 = (1, 12, 24) := by decide +kernel
theorem kx_171_162 : x_code k_P 171 162 = some (.aload_n 0, 1) := by decide +kernel
theorem kx_171_163 : x_code k_P 171 163 = some (.iconst 2, 1) := by decide +kernel
theorem kx_171_164 : x_code k_P 171 164 = some (.newarray .int, 2) := by decide +kernel
theorem kx_171_166 : x_code k_P 171 166 = some (.putfield 87, 3) := by decide +kernel
theorem kp_171_87 : x_pool k_P 171 87 = (1, 12, 25) := by decide +kernel
theorem kx_171_169 : x_code k_P 171 169 = some (.aload_n 0, 1) := by decide +kernel
theorem kx_171_170 : x_code k_P 171 170 = some (.iconst 2, 1) := by decide +kernel
theorem kx_171_171 : x_code k_P 171 171 = some (.newarray .int, 2) := by decide +kernel
theorem kx_171_173 : x_code k_P 171 173 = some (.putfield 90, 3) := by decide +kernel
theorem kp_171_90 : x_pool k_P 171 90 = (1, 12, 26) := by decide +kernel
theorem kx_171_176 : x_code k_P 171 176 = some (.aload_n 0, 1) := by decide +kernel
theorem kx_171_177 : x_code k_P 171 177 = some (.iconst 2, 1) := by decide +kernel
theorem kx_171_178 : x_code k_P 171 178 = some (.newarray .int, 2) := by decide +kernel
theorem kx_171_180 : x_code k_P 171 180 = some (.putfield 93, 3) := by decide +kernel
theorem kp_171_93 : x_pool k_P 171 93 = (1, 12, 27) := by decide +kernel
theorem kx_171_183 : x_code k_P 171 183 = some (.aload_n 0, 1) := by decide +kernel
theorem kx_171_184 : x_code k_P 171 184 = some (.iconst 2, 1) := by decide +kernel
theorem kx_171_185 : x_code k_P 171 185 = some (.newarray .int, 2) := by decide +kernel
theorem kx_171_187 : x_code k_P 171 187 = some (.putfield 96, 3) := by decide +kernel
theorem kp_171_96 : x_pool k_P 171 96 = (1, 12, 28) := by decide +kernel
theorem kx_171_190 : x_code k_P 171 190 = some (.aload_n 0, 1) := by decide +kernel
theorem kx_171_191 : x_code k_P 171 191 = some (.iconst 2, 1) := by decide +kernel
theorem kx_171_192 : x_code k_P 171 192 = some (.newarray .int, 2) := by decide +kernel
theorem kx_171_194 : x_code k_P 171 194 = some (.putfield 99, 3) := by decide +kernel
theorem kp_171_99 : x_pool k_P 171 99 = (1, 12, 29) := by decide +kernel
theorem kx_171_197 : x_code k_P 171 197 = some (.aload_n 0, 1) := by decide +kernel
theorem kx_171_198 : x_code k_P 171 198 = some (.iconst 2, 1) := by decide +kernel
theorem kx_171_199 : x_code k_P 171 199 = some (.newarray .int, 2) := by decide +kernel
theorem kx_171_201 : x_code k_P 171 201 = some (.putfield 102, 3) := by decide +kernel
theorem kp_171_102 : x_pool k_P 171 102 = (1, 12, 30) := by decide +kernel
theorem kx_171_204 : x_code k_P 171 204 = some (.aload_n 0, 1) := by decide +kernel
theorem kx_171_205 : x_code k_P 171 205 = some (.sipush 3200, 3) := by decide +kernel
theorem kx_171_208 : x_code k_P 171 208 = some (.newarray .int, 2) := by decide +kernel
theorem kx_171_210 : x_code k_P 171 210 = some (.putfield 105, 3) := by decide +kernel
theorem kp_171_105 : x_pool k_P 171 105 = (1, 12, 31) := by decide +kernel
theorem kx_171_213 : x_code k_P 171 213 = some (.aload_n 0, 1) := by decide +kernel
theorem kx_171_214 : x_code k_P 171 214 = some (.sipush 3200, 3) := by decide +kernel
theorem kx_171_217 : x_code k_P 171 217 = some (.newarray .int, 2) := by decide +kernel
theorem kx_171_219 : x_code k_P 171 219 = some (.putfield 108, 3) := by decide +kernel
theorem kp_171_108 : x_pool k_P 171 108 = (1, 12, 32) := by decide +kernel
theorem kx_171_222 : x_code k_P 171 222 = some (.aload_n 0, 1) := by decide +kernel
theorem kx_171_223 : x_code k_P 171 223 = some (.bipush 16, 2) := by decide +kernel
theorem kx_171_225 : x_code k_P 171 225 = some (.newarray .long, 2) := by decide +kernel
theorem kx_171_227 : x_code k_P 171 227 = some (.putfield 111, 3) := by decide +kernel
theorem kp_171_111 : x_pool k_P 171 111 = (1, 12, 33) := by decide +kernel
theorem kx_171_230 : x_code k_P 171 230 = some (.aload_n 0, 1) := by decide +kernel
theorem kx_171_231 : x_code k_P 171 231 = some (.bipush 16, 2) := by decide +kernel
theorem kx_171_233 : x_code k_P 171 233 = some (.newarray .long, 2) := by decide +kernel
theorem kx_171_235 : x_code k_P 171 235 = some (.putfield 115, 3) := by decide +kernel
theorem kp_171_115 : x_pool k_P 171 115 = (1, 12, 34) := by decide +kernel
theorem kx_171_238 : x_code k_P 171 238 = some (.aload_n 0, 1) := by decide +kernel
theorem kx_171_239 : x_code k_P 171 239 = some (.iconst 0, 1) := by decide +kernel
theorem kx_171_240 : x_code k_P 171 240 = some (.putfield 118, 3) := by decide +kernel
theorem kp_171_118 : x_pool k_P 171 118 = (1, 12, 35) := by decide +kernel
theorem kx_171_243 : x_code k_P 171 243 = some (.aload_n 0, 1) := by decide +kernel
theorem kx_171_244 : x_code k_P 171 244 = some (.iconst 1, 1) := by decide +kernel
theorem kx_171_245 : x_code k_P 171 245 = some (.putfield 121, 3) := by decide +kernel
theorem kp_171_121 : x_pool k_P 171 121 = (1, 12, 36) := by decide +kernel
theorem kx_171_248 : x_code k_P 171 248 = some (.aload_n 0, 1) := by decide +kernel
theorem kx_171_249 : x_code k_P 171 249 = some (.bipush 20, 2) := by decide +kernel
theorem kx_171_251 : x_code k_P 171 251 = some (.newarray .int, 2) := by decide +kernel
theorem kx_171_253 : x_code k_P 171 253 = some (.putfield 124, 3) := by decide +kernel
theorem kp_171_124 : x_pool k_P 171 124 = (1, 12, 37) := by decide +kernel
theorem kx_171_256 : x_code k_P 171 256 = some (.aload_n 0, 1) := by decide +kernel
theorem kx_171_257 : x_code k_P 171 257 = some (.bipush 20, 2) := by decide +kernel
theorem kx_171_259 : x_code k_P 171 259 = some (.newarray .int, 2) := by decide +kernel
theorem kx_171_261 : x_code k_P 171 261 = some (.putfield 127, 3) := by decide +kernel
theorem kp_171_127 : x_pool k_P 171 127 = (1, 12, 38) := by decide +kernel
theorem kx_171_264 : x_code k_P 171 264 = some (.aload_n 0, 1) := by decide +kernel
theorem kx_171_265 : x_code k_P 171 265 = some (.bipush 20, 2) := by decide +kernel
theorem kx_171_267 : x_code k_P 171 267 = some (.newarray .boolean, 2) := by decide +kernel
theorem kx_171_269 : x_code k_P 171 269 = some (.putfield 130, 3) := by decide +kernel
theorem kp_171_130 : x_pool k_P 171 130 = (1, 12, 39) := by decide +kernel
theorem kx_171_272 : x_code k_P 171 272 = some (.aload_n 0, 1) := by decide +kernel
theorem kx_171_273 : x_code k_P 171 273 = some (.bipush 20, 2) := by decide +kernel
theorem kx_171_275 : x_code k_P 171 275 = some (.newarray .int, 2) := by decide +kernel
theorem kx_171_277 : x_code k_P 171 277 = some (.putfield 134, 3) := by decide +kernel
theorem kp_171_134 : x_pool k_P 171 134 = (1, 12, 40) := by decide +kernel
theorem kx_171_280 : x_code k_P 171 280 = some (.aload_n 0, 1) := by decide +kernel
theorem kx_171_281 : x_code k_P 171 281 = some (.bipush 20, 2) := by decide +kernel
theorem kx_171_283 : x_code k_P 171 283 = some (.newarray .int, 2) := by decide +kernel
theorem kx_171_285 : x_code k_P 171 285 = some (.putfield 137, 3) := by decide +kernel
theorem kp_171_137 : x_pool k_P 171 137 = (1, 12, 41) := by decide +kernel
theorem kx_171_288 : x_code k_P 171 288 = some (.aload_n 0, 1) := by decide +kernel
theorem kx_171_289 : x_code k_P 171 289 = some (.iconst 0, 1) := by decide +kernel
theorem kx_171_290 : x_code k_P 171 290 = some (.putfield 140, 3) := by decide +kernel
theorem kp_171_140 : x_pool k_P 171 140 = (1, 12, 42) := by decide +kernel
theorem kx_171_293 : x_code k_P 171 293 = some (.aload_n 0, 1) := by decide +kernel
theorem kx_171_294 : x_code k_P 171 294 = some (.iconst 0, 1) := by decide +kernel
theorem kx_171_295 : x_code k_P 171 295 = some (.putfield 143, 3) := by decide +kernel
theorem kp_171_143 : x_pool k_P 171 143 = (1, 12, 43) := by decide +kernel
theorem kx_171_298 : x_code k_P 171 298 = some (.aload_n 0, 1) := by decide +kernel
theorem kx_171_299 : x_code k_P 171 299 = some (.sipush 500, 3) := by decide +kernel
theorem kx_171_302 : x_code k_P 171 302 = some (.newarray .int, 2) := by decide +kernel
theorem kx_171_304 : x_code k_P 171 304 = some (.putfield 146, 3) := by decide +kernel
theorem kp_171_146 : x_pool k_P 171 146 = (1, 12, 44) := by decide +kernel
theorem kx_171_307 : x_code k_P 171 307 = some (.aload_n 0, 1) := by decide +kernel
theorem kx_171_308 : x_code k_P 171 308 = some (.iconst 0, 1) := by decide +kernel
theorem kx_171_309 : x_code k_P 171 309 = some (.putfield 149, 3) := by decide +kernel
theorem kp_171_149 : x_pool k_P 171 149 = (1, 12, 45) := by decide +kernel
theorem kx_171_312 : x_code k_P 171 312 = some (.aload_n 0, 1) := by decide +kernel
theorem kx_171_313 : x_code k_P 171 313 = some (.iconst 0, 1) := by decide +kernel
theorem kx_171_314 : x_code k_P 171 314 = some (.putfield 152, 3) := by decide +kernel
theorem kp_171_152 : x_pool k_P 171 152 = (1, 12, 46) := by decide +kernel
theorem kx_171_317 : x_code k_P 171 317 = some (.aload_n 0, 1) := by decide +kernel
theorem kx_171_318 : x_code k_P 171 318 = some (.bipush 6, 2) := by decide +kernel
theorem kx_171_320 : x_code k_P 171 320 = some (.newarray .int, 2) := by decide +kernel
theorem kx_171_322 : x_code k_P 171 322 = some (.putfield 156, 3) := by decide +kernel
theorem kp_171_156 : x_pool k_P 171 156 = (1, 12, 47) := by decide +kernel
theorem kx_171_325 : x_code k_P 171 325 = some (.aload_n 0, 1) := by decide +kernel
theorem kx_171_326 : x_code k_P 171 326 = some (.sipush 176, 3) := by decide +kernel
theorem kx_171_329 : x_code k_P 171 329 = some (.newarray .int, 2) := by decide +kernel
theorem kx_171_331 : x_code k_P 171 331 = some (.putfield 159, 3) := by decide +kernel
theorem kp_171_159 : x_pool k_P 171 159 = (1, 12, 48) := by decide +kernel
theorem kx_171_334 : x_code k_P 171 334 = some (.aload_n 0, 1) := by decide +kernel
theorem kx_171_335 : x_code k_P 171 335 = some (.sipush 176, 3) := by decide +kernel
theorem kx_171_338 : x_code k_P 171 338 = some (.newarray .int, 2) := by decide +kernel
theorem kx_171_340 : x_code k_P 171 340 = some (.putfield 162, 3) := by decide +kernel
theorem kp_171_162 : x_pool k_P 171 162 = (1, 12, 49) := by decide +kernel
theorem kx_171_343 : x_code k_P 171 343 = some (.aload_n 0, 1) := by decide +kernel
theorem kx_171_344 : x_code k_P 171 344 = some (.sipush 176, 3) := by decide +kernel
theorem kx_171_347 : x_code k_P 171 347 = some (.newarray .int, 2) := by decide +kernel
theorem kx_171_349 : x_code k_P 171 349 = some (.putfield 165, 3) := by decide +kernel
theorem kp_171_165 : x_pool k_P 171 165 = (1, 12, 50) := by decide +kernel
theorem kx_171_352 : x_code k_P 171 352 = some (.aload_n 0, 1) := by decide +kernel
theorem kx_171_353 : x_code k_P 171 353 = some (.sipush 176, 3) := by decide +kernel
theorem kx_171_356 : x_code k_P 171 356 = some (.newarray .int, 2) := by decide +kernel
theorem kx_171_358 : x_code k_P 171 358 = some (.putfield 168, 3) := by decide +kernel
theorem kp_171_168 : x_pool k_P 171 168 = (1, 12, 51) := by decide +kernel
theorem kx_171_361 : x_code k_P 171 361 = some (.aload_n 0, 1) := by decide +kernel
theorem kx_171_362 : x_code k_P 171 362 = some (.sipush 176, 3) := by decide +kernel
theorem kx_171_365 : x_code k_P 171 365 = some (.newarray .int, 2) := by decide +kernel
theorem kx_171_367 : x_code k_P 171 367 = some (.putfield 171, 3) := by decide +kernel
theorem kp_171_171 : x_pool k_P 171 171 = (1, 12, 52) := by decide +kernel
theorem kx_171_370 : x_code k_P 171 370 = some (.aload_n 0, 1) := by decide +kernel
theorem kx_171_371 : x_code k_P 171 371 = some (.bipush 22, 2) := by decide +kernel
theorem kx_171_373 : x_code k_P 171 373 = some (.newarray .int, 2) := by decide +kernel
theorem kx_171_375 : x_code k_P 171 375 = some (.putfield 174, 3) := by decide +kernel
theorem kp_171_174 : x_pool k_P 171 174 = (1, 12, 53) := by decide +kernel
theorem kx_171_378 : x_code k_P 171 378 = some (.aload_n 0, 1) := by decide +kernel
theorem kx_171_379 : x_code k_P 171 379 = some (.sipush 880, 3) := by decide +kernel
theorem kx_171_382 : x_code k_P 171 382 = some (.newarray .int, 2) := by decide +kernel
theorem kx_171_384 : x_code k_P 171 384 = some (.putfield 177, 3) := by decide +kernel
theorem kp_171_177 : x_pool k_P 171 177 = (1, 12, 54) := by decide +kernel
theorem kx_171_387 : x_code k_P 171 387 = some (.aload_n 0, 1) := by decide +kernel
theorem kx_171_388 : x_code k_P 171 388 = some (.sipush 880, 3) := by decide +kernel
theorem kx_171_391 : x_code k_P 171 391 = some (.newarray .int, 2) := by decide +kernel
theorem kx_171_393 : x_code k_P 171 393 = some (.putfield 180, 3) := by decide +kernel
theorem kp_171_180 : x_pool k_P 171 180 = (1, 12, 55) := by decide +kernel
theorem kx_171_396 : x_code k_P 171 396 = some (.aload_n 0, 1) := by decide +kernel
theorem kx_171_397 : x_code k_P 171 397 = some (.sipush 880, 3) := by decide +kernel
theorem kx_171_400 : x_code k_P 171 400 = some (.newarray .int, 2) := by decide +kernel
theorem kx_171_402 : x_code k_P 171 402 = some (.putfield 183, 3) := by decide +kernel
theorem kp_171_183 : x_pool k_P 171 183 = (1, 12, 56) := by decide +kernel
theorem kx_171_405 : x_code k_P 171 405 = some (.aload_n 0, 1) := by decide +kernel
theorem kx_171_406 : x_code k_P 171 406 = some (.sipush 880, 3) := by decide +kernel
theorem kx_171_409 : x_code k_P 171 409 = some (.newarray .int, 2) := by decide +kernel
theorem kx_171_411 : x_code k_P 171 411 = some (.putfield 186, 3) := by decide +kernel
theorem kp_171_186 : x_pool k_P 171 186 = (1, 12, 57) := by decide +kernel
theorem kx_171_414 : x_code k_P 171 414 = some (.aload_n 0, 1) := by decide +kernel
theorem kx_171_415 : x_code k_P 171 415 = some (.iconst 0, 1) := by decide +kernel
theorem kx_171_416 : x_code k_P 171 416 = some (.putfield 189, 3) := by decide +kernel
theorem kp_171_189 : x_pool k_P 171 189 = (1, 12, 58) := by decide +kernel
theorem kx_171_419 : x_code k_P 171 419 = some (.aload_n 0, 1) := by decide +kernel
theorem kx_171_420 : x_code k_P 171 420 = some (.iconst 0, 1) := by decide +kernel
theorem kx_171_421 : x_code k_P 171 421 = some (.putfield 192, 3) := by decide +kernel
theorem kp_171_192 : x_pool k_P 171 192 = (1, 12, 59) := by decide +kernel
theorem kx_171_424 : x_code k_P 171 424 = some (.aload_n 0, 1) := by decide +kernel
theorem kx_171_425 : x_code k_P 171 425 = some (.lconst 1, 1) := by decide +kernel
theorem kx_171_426 : x_code k_P 171 426 = some (.putfield 195, 3) := by decide +kernel
theorem kp_171_195 : x_pool k_P 171 195 = (1, 12, 60) := by decide +kernel
theorem kx_171_429 : x_code k_P 171 429 = some (.aload_n 0, 1) := by decide +kernel
theorem kx_171_430 : x_code k_P 171 430 = some (.sipush 500, 3) := by decide +kernel
theorem kx_171_433 : x_code k_P 171 433 = some (.newarray .long, 2) := by decide +kernel
theorem kx_171_435 : x_code k_P 171 435 = some (.putfield 198, 3) := by decide +kernel
theorem kp_171_198 : x_pool k_P 171 198 = (1, 12, 61) := by decide +kernel
theorem kx_171_438 : x_code k_P 171 438 = some (.aload_n 0, 1) := by decide +kernel
theorem kx_171_439 : x_code k_P 171 439 = some (.iconst 0, 1) := by decide +kernel
theorem kx_171_440 : x_code k_P 171 440 = some (.putfield 201, 3) := by decide +kernel
theorem kp_171_201 : x_pool k_P 171 201 = (1, 12, 62) := by decide +kernel
theorem kx_171_443 : x_code k_P 171 443 = some (.aload_n 0, 1) := by decide +kernel
theorem kx_171_444 : x_code k_P 171 444 = some (.iconst 0, 1) := by decide +kernel
theorem kx_171_445 : x_code k_P 171 445 = some (.putfield 204, 3) := by decide +kernel
theorem kp_171_204 : x_pool k_P 171 204 = (1, 12, 63) := by decide +kernel
theorem kx_171_448 : x_code k_P 171 448 = some (.aload_n 0, 1) := by decide +kernel
theorem kx_171_449 : x_code k_P 171 449 = some (.iconst 0, 1) := by decide +kernel
theorem kx_171_450 : x_code k_P 171 450 = some (.putfield 207, 3) := by decide +kernel
theorem kp_171_207 : x_pool k_P 171 207 = (1, 12, 64) := by decide +kernel
theorem kx_171_453 : x_code k_P 171 453 = some (.aload_n 0, 1) := by decide +kernel
theorem kx_171_454 : x_code k_P 171 454 = some (.bipush 64, 2) := by decide +kernel
theorem kx_171_456 : x_code k_P 171 456 = some (.newarray .int, 2) := by decide +kernel
theorem kx_171_458 : x_code k_P 171 458 = some (.putfield 210, 3) := by decide +kernel
theorem kp_171_210 : x_pool k_P 171 210 = (1, 12, 65) := by decide +kernel
theorem kx_171_461 : x_code k_P 171 461 = some (.aload_n 0, 1) := by decide +kernel
theorem kx_171_462 : x_code k_P 171 462 = some (.bipush 64, 2) := by decide +kernel
theorem kx_171_464 : x_code k_P 171 464 = some (.newarray .int, 2) := by decide +kernel
theorem kx_171_466 : x_code k_P 171 466 = some (.putfield 213, 3) := by decide +kernel
theorem kp_171_213 : x_pool k_P 171 213 = (1, 12, 66) := by decide +kernel
theorem kx_171_469 : x_code k_P 171 469 = some (.aload_n 0, 1) := by decide +kernel
theorem kx_171_470 : x_code k_P 171 470 = some (.bipush 8, 2) := by decide +kernel
theorem kx_171_472 : x_code k_P 171 472 = some (.newarray .int, 2) := by decide +kernel
theorem kx_171_474 : x_code k_P 171 474 = some (.putfield 216, 3) := by decide +kernel
theorem kp_171_216 : x_pool k_P 171 216 = (1, 12, 67) := by decide +kernel
theorem kx_171_477 : x_code k_P 171 477 = some (.aload_n 0, 1) := by decide +kernel
theorem kx_171_478 : x_code k_P 171 478 = some (.iconst 0, 1) := by decide +kernel
theorem kx_171_479 : x_code k_P 171 479 = some (.putfield 219, 3) := by decide +kernel
theorem kp_171_219 : x_pool k_P 171 219 = (1, 12, 68) := by decide +kernel
theorem kx_171_482 : x_code k_P 171 482 = some (.aload_n 0, 1) := by decide +kernel
theorem kx_171_483 : x_code k_P 171 483 = some (.bipush 12, 2) := by decide +kernel
theorem kx_171_485 : x_code k_P 171 485 = some (.newarray .int, 2) := by decide +kernel
theorem kx_171_487 : x_code k_P 171 487 = some (.putfield 222, 3) := by decide +kernel
theorem kp_171_222 : x_pool k_P 171 222 = (1, 12, 69) := by decide +kernel
theorem kx_171_490 : x_code k_P 171 490 = some (.aload_n 0, 1) := by decide +kernel
theorem kx_171_491 : x_code k_P 171 491 = some (.iconst 0, 1) := by decide +kernel
theorem kx_171_492 : x_code k_P 171 492 = some (.putfield 225, 3) := by decide +kernel
theorem kp_171_225 : x_pool k_P 171 225 = (1, 12, 70) := by decide +kernel
theorem kx_171_495 : x_code k_P 171 495 = some (.aload_n 0, 1) := by decide +kernel
theorem kx_171_496 : x_code k_P 171 496 = some (.bipush 64, 2) := by decide +kernel
theorem kx_171_498 : x_code k_P 171 498 = some (.newarray .int, 2) := by decide +kernel
theorem kx_171_500 : x_code k_P 171 500 = some (.putfield 228, 3) := by decide +kernel
theorem kp_171_228 : x_pool k_P 171 228 = (1, 12, 71) := by decide +kernel
theorem kx_171_503 : x_code k_P 171 503 = some (.aload_n 0, 1) := by decide +kernel
theorem kx_171_504 : x_code k_P 171 504 = some (.iconst 0, 1) := by decide +kernel
theorem kx_171_505 : x_code k_P 171 505 = some (.putfield 231, 3) := by decide +kernel
theorem kp_171_231 : x_pool k_P 171 231 = (1, 12, 72) := by decide +kernel
theorem kx_171_508 : x_code k_P 171 508 = some (.aload_n 0, 1) := by decide +kernel
theorem kx_171_509 : x_code k_P 171 509 = some (.bipush 8, 2) := by decide +kernel
theorem kx_171_511 : x_code k_P 171 511 = some (.newarray .int, 2) := by decide +kernel
theorem kx_171_513 : x_code k_P 171 513 = some (.putfield 234, 3) := by decide +kernel
theorem kp_171_234 : x_pool k_P 171 234 = (1, 12, 73) := by decide +kernel
theorem kx_171_516 : x_code k_P 171 516 = some (.aload_n 0, 1) := by decide +kernel
theorem kx_171_517 : x_code k_P 171 517 = some (.bipush 8, 2) := by decide +kernel
theorem kx_171_519 : x_code k_P 171 519 = some (.newarray .int, 2) := by decide +kernel
theorem kx_171_521 : x_code k_P 171 521 = some (.putfield 237, 3) := by decide +kernel
theorem kp_171_237 : x_pool k_P 171 237 = (1, 12, 74) := by decide +kernel
theorem kx_171_524 : x_code k_P 171 524 = some (.aload_n 0, 1) := by decide +kernel
theorem kx_171_525 : x_code k_P 171 525 = some (.sipush 600, 3) := by decide +kernel
theorem kx_171_528 : x_code k_P 171 528 = some (.newarray .int, 2) := by decide +kernel
theorem kx_171_530 : x_code k_P 171 530 = some (.putfield 240, 3) := by decide +kernel
theorem kp_171_240 : x_pool k_P 171 240 = (1, 12, 75) := by decide +kernel
theorem kx_171_533 : x_code k_P 171 533 = some (.aload_n 0, 1) := by decide +kernel
theorem kx_171_534 : x_code k_P 171 534 = some (.sipush 600, 3) := by decide +kernel
theorem kx_171_537 : x_code k_P 171 537 = some (.newarray .int, 2) := by decide +kernel
theorem kx_171_539 : x_code k_P 171 539 = some (.putfield 243, 3) := by decide +kernel
theorem kp_171_243 : x_pool k_P 171 243 = (1, 12, 76) := by decide +kernel
theorem kx_171_542 : x_code k_P 171 542 = some (.aload_n 0, 1) := by decide +kernel
theorem kx_171_543 : x_code k_P 171 543 = some (.bipush 8, 2) := by decide +kernel
theorem kx_171_545 : x_code k_P 171 545 = some (.newarray .int, 2) := by decide +kernel
theorem kx_171_547 : x_code k_P 171 547 = some (.putfield 246, 3) := by decide +kernel
theorem kp_171_246 : x_pool k_P 171 246 = (1, 12, 77) := by decide +kernel
theorem kx_171_550 : x_code k_P 171 550 = some (.aload_n 0, 1) := by decide +kernel
theorem kx_171_551 : x_code k_P 171 551 = some (.bipush 80, 2) := by decide +kernel
theorem kx_171_553 : x_code k_P 171 553 = some (.newarray .int, 2) := by decide +kernel
theorem kx_171_555 : x_code k_P 171 555 = some (.putfield 249, 3) := by decide +kernel
theorem kp_171_249 : x_pool k_P 171 249 = (1, 12, 78) := by decide +kernel
theorem kx_171_558 : x_code k_P 171 558 = some (.aload_n 0, 1) := by decide +kernel
theorem kx_171_559 : x_code k_P 171 559 = some (.iconst 0, 1) := by decide +kernel
theorem kx_171_560 : x_code k_P 171 560 = some (.putfield 252, 3) := by decide +kernel
theorem kp_171_252 : x_pool k_P 171 252 = (1, 12, 79) := by decide +kernel
theorem kx_171_563 : x_code k_P 171 563 = some (.aload_n 0, 1) := by decide +kernel
theorem kx_171_564 : x_code k_P 171 564 = some (.getfield 87, 3) := by decide +kernel
theorem kx_171_567 : x_code k_P 171 567 = some (.iconst 0, 1) := by decide +kernel
theorem kx_171_568 : x_code k_P 171 568 = some (.iconst (-1), 1) := by decide +kernel
theorem kx_171_569 : x_code k_P 171 569 = some (.iastore, 1) := by decide +kernel
theorem kx_171_570 : x_code k_P 171 570 = some (.aload_n 0, 1) := by decide +kernel
theorem kx_171_571 : x_code k_P 171 571 = some (.getfield 93, 3) := by decide +kernel
theorem kx_171_574 : x_code k_P 171 574 = some (.iconst 0, 1) := by decide +kernel
theorem kx_171_575 : x_code k_P 171 575 = some (.iconst (-1), 1) := by decide +kernel
theorem kx_171_576 : x_code k_P 171 576 = some (.iastore, 1) := by decide +kernel
theorem kx_171_577 : x_code k_P 171 577 = some (.aload_n 0, 1) := by decide +kernel
theorem kx_171_578 : x_code k_P 171 578 = some (.getfield 102, 3) := by decide +kernel
theorem kx_171_581 : x_code k_P 171 581 = some (.iconst 0, 1) := by decide +kernel
theorem kx_171_582 : x_code k_P 171 582 = some (.iconst (-1), 1) := by decide +kernel
theorem kx_171_583 : x_code k_P 171 583 = some (.iastore, 1) := by decide +kernel
theorem kx_171_584 : x_code k_P 171 584 = some (.iconst 0, 1) := by decide +kernel
theorem kx_171_585 : x_code k_P 171 585 = some (.istore_n 1, 1) := by decide +kernel
theorem km_171_1 : 1 < x_maxL k_P 171 := by decide +kernel
theorem kx_171_586 : x_code k_P 171 586 = some (.iload_n 1, 1) := by decide +kernel
theorem kx_171_587 : x_code k_P 171 587 = some (.bipush 16, 2) := by decide +kernel
theorem kx_171_589 : x_code k_P 171 589 = some (.if_icmp .ge 16, 3) := by decide +kernel
theorem kx_171_592 : x_code k_P 171 592 = some (.aload_n 0, 1) := by decide +kernel
theorem kx_171_593 : x_code k_P 171 593 = some (.getfield 84, 3) := by decide +kernel
theorem kx_171_596 : x_code k_P 171 596 = some (.iload_n 1, 1) := by decide +kernel
theorem kx_171_597 : x_code k_P 171 597 = some (.iconst (-1), 1) := by decide +kernel
theorem kx_171_598 : x_code k_P 171 598 = some (.iastore, 1) := by decide +kernel
theorem kx_171_599 : x_code k_P 171 599 = some (.iinc 1 1, 3) := by decide +kernel
theorem kx_171_602 : x_code k_P 171 602 = some (.goto (-16), 3) := by decide +kernel
theorem kx_171_605 : x_code k_P 171 605 = some (.return_, 1) := by decide +kernel
theorem kq_171 : x_retk k_P 171 = 0 := by decide +kernel
set_option maxRecDepth 100000 in
theorem bi_17 {xs : Nat → Int} {Ln d : Nat} : cC k_P xs Ln (d + 0) 171 [rf 63] (k_T0.take 64, toM bU_160) (fun r h => r = none ∧ h = (k_T0.take 114, toM bU_309)) := by
  show cP k_P xs Ln (d + 0) 171 0 [(0, rf 63)] [] (k_T0.take 64, toM bU_160) _
  refine s_aload_n kx_171_0 rfl ?_
  refine b_obj kx_171_1 kp_171_1 (by decide) ?_
  refine s_aload_n kx_171_4 rfl ?_
  refine s_sipush (v := 1800) kx_171_5 (by decide) ?_
  refine b_newI (i := 64) (M' := toM bU_161) kx_171_8 rfl (by decide) ⟨by decide, by decide⟩ rfl ?_
  refine s_putf (k := 63) (f := 0) (M' := toM bU_162) kx_171_10 kp_171_7 (bt_at rfl (by decide)) kf_12_0 rfl (Or.inr ⟨kn_171, ki_171⟩) rfl ?_
  refine s_aload_n kx_171_13 rfl ?_
  refine s_iconst (v := 0) kx_171_14 (by decide) ?_
  refine s_putf (k := 63) (f := 1) (M' := toM bU_163) kx_171_15 kp_171_13 (bt_at rfl (by decide)) kf_12_1 rfl (Or.inl (by decide)) rfl ?_
  refine s_aload_n kx_171_18 rfl ?_
  refine s_iconst (v := 0) kx_171_19 (by decide) ?_
  refine s_putf (k := 63) (f := 2) (M' := toM bU_164) kx_171_20 kp_171_17 (bt_at rfl (by decide)) kf_12_2 rfl (Or.inl (by decide)) rfl ?_
  refine s_aload_n kx_171_23 rfl ?_
  refine s_iconst (v := 0) kx_171_24 (by decide) ?_
  refine s_putf (k := 63) (f := 3) (M' := toM bU_165) kx_171_25 kp_171_20 (bt_at rfl (by decide)) kf_12_3 rfl (Or.inl (by decide)) rfl ?_
  refine s_aload_n kx_171_28 rfl ?_
  refine s_iconst (v := 0) kx_171_29 (by decide) ?_
  refine s_putf (k := 63) (f := 4) (M' := toM bU_166) kx_171_30 kp_171_23 (bt_at rfl (by decide)) kf_12_4 rfl (Or.inl (by decide)) rfl ?_
  refine s_aload_n kx_171_33 rfl ?_
  refine s_iconst (v := 0) kx_171_34 (by decide) ?_
  refine s_putf (k := 63) (f := 5) (M' := toM bU_167) kx_171_35 kp_171_26 (bt_at rfl (by decide)) kf_12_5 rfl (Or.inl (by decide)) rfl ?_
  refine s_aload_n kx_171_38 rfl ?_
  refine s_iconst (v := 0) kx_171_39 (by decide) ?_
  refine s_putf (k := 63) (f := 6) (M' := toM bU_168) kx_171_40 kp_171_29 (bt_at rfl (by decide)) kf_12_6 rfl (Or.inl (by decide)) rfl ?_
  refine s_aload_n kx_171_43 rfl ?_
  refine s_lconst (v := 0) kx_171_44 (by decide) ?_
  refine s_putf (k := 63) (f := 7) (M' := toM bU_169) kx_171_45 kp_171_32 (bt_at rfl (by decide)) kf_12_7 rfl (Or.inl (by decide)) rfl ?_
  refine s_aload_n kx_171_48 rfl ?_
  refine s_iconst (v := 0) kx_171_49 (by decide) ?_
  refine s_putf (k := 63) (f := 8) (M' := toM bU_170) kx_171_50 kp_171_36 (bt_at rfl (by decide)) kf_12_8 rfl (Or.inl (by decide)) rfl ?_
  refine s_aload_n kx_171_53 rfl ?_
  refine s_iconst (v := 0) kx_171_54 (by decide) ?_
  refine s_putf (k := 63) (f := 9) (M' := toM bU_171) kx_171_55 kp_171_39 (bt_at rfl (by decide)) kf_12_9 rfl (Or.inl (by decide)) rfl ?_
  refine s_aload_n kx_171_58 rfl ?_
  refine s_iconst (v := (-1)) kx_171_59 (by decide) ?_
  refine s_putf (k := 63) (f := 10) (M' := toM bU_172) kx_171_60 kp_171_42 (bt_at rfl (by decide)) kf_12_10 rfl (Or.inl (by decide)) rfl ?_
  refine s_aload_n kx_171_63 rfl ?_
  refine s_iconst (v := 0) kx_171_64 (by decide) ?_
  refine s_putf (k := 63) (f := 11) (M' := toM bU_173) kx_171_65 kp_171_45 (bt_at rfl (by decide)) kf_12_11 rfl (Or.inl (by decide)) rfl ?_
  refine s_aload_n kx_171_68 rfl ?_
  refine s_iconst (v := (-1)) kx_171_69 (by decide) ?_
  refine s_putf (k := 63) (f := 12) (M' := toM bU_174) kx_171_70 kp_171_48 (bt_at rfl (by decide)) kf_12_12 rfl (Or.inl (by decide)) rfl ?_
  refine s_aload_n kx_171_73 rfl ?_
  refine s_iconst (v := (-1)) kx_171_74 (by decide) ?_
  refine s_putf (k := 63) (f := 13) (M' := toM bU_175) kx_171_75 kp_171_51 (bt_at rfl (by decide)) kf_12_13 rfl (Or.inl (by decide)) rfl ?_
  refine s_aload_n kx_171_78 rfl ?_
  refine s_iconst (v := 0) kx_171_79 (by decide) ?_
  refine s_putf (k := 63) (f := 14) (M' := toM bU_176) kx_171_80 kp_171_54 (bt_at rfl (by decide)) kf_12_14 rfl (Or.inl (by decide)) rfl ?_
  refine s_aload_n kx_171_83 rfl ?_
  refine s_iconst (v := 2) kx_171_84 (by decide) ?_
  refine b_newI (i := 65) (M' := toM bU_177) kx_171_85 rfl (by decide) ⟨by decide, by decide⟩ rfl ?_
  refine s_putf (k := 63) (f := 15) (M' := toM bU_178) kx_171_87 kp_171_57 (bt_at rfl (by decide)) kf_12_15 rfl (Or.inr ⟨kn_171, ki_171⟩) rfl ?_
  refine s_aload_n kx_171_90 rfl ?_
  refine s_bipush (v := 16) kx_171_91 (by decide) ?_
  refine b_newI (i := 66) (M' := toM bU_179) kx_171_93 rfl (by decide) ⟨by decide, by decide⟩ rfl ?_
  refine s_putf (k := 63) (f := 16) (M' := toM bU_180) kx_171_95 kp_171_60 (bt_at rfl (by decide)) kf_12_16 rfl (Or.inr ⟨kn_171, ki_171⟩) rfl ?_
  refine s_aload_n kx_171_98 rfl ?_
  refine s_bipush (v := 16) kx_171_99 (by decide) ?_
  refine b_newI (i := 67) (M' := toM bU_181) kx_171_101 rfl (by decide) ⟨by decide, by decide⟩ rfl ?_
  refine s_putf (k := 63) (f := 17) (M' := toM bU_182) kx_171_103 kp_171_63 (bt_at rfl (by decide)) kf_12_17 rfl (Or.inr ⟨kn_171, ki_171⟩) rfl ?_
  refine s_aload_n kx_171_106 rfl ?_
  refine s_sipush (v := 128) kx_171_107 (by decide) ?_
  refine b_newI (i := 68) (M' := toM bU_183) kx_171_110 rfl (by decide) ⟨by decide, by decide⟩ rfl ?_
  refine s_putf (k := 63) (f := 18) (M' := toM bU_184) kx_171_112 kp_171_66 (bt_at rfl (by decide)) kf_12_18 rfl (Or.inr ⟨kn_171, ki_171⟩) rfl ?_
  refine s_aload_n kx_171_115 rfl ?_
  refine s_iconst (v := 2) kx_171_116 (by decide) ?_
  refine b_newI (i := 69) (M' := toM bU_185) kx_171_117 rfl (by decide) ⟨by decide, by decide⟩ rfl ?_
  refine s_putf (k := 63) (f := 19) (M' := toM bU_186) kx_171_119 kp_171_69 (bt_at rfl (by decide)) kf_12_19 rfl (Or.inr ⟨kn_171, ki_171⟩) rfl ?_
  refine s_aload_n kx_171_122 rfl ?_
  refine s_bipush (v := 16) kx_171_123 (by decide) ?_
  refine b_newI (i := 70) (M' := toM bU_187) kx_171_125 rfl (by decide) ⟨by decide, by decide⟩ rfl ?_
  refine s_putf (k := 63) (f := 20) (M' := toM bU_188) kx_171_127 kp_171_72 (bt_at rfl (by decide)) kf_12_20 rfl (Or.inr ⟨kn_171, ki_171⟩) rfl ?_
  refine s_aload_n kx_171_130 rfl ?_
  refine s_bipush (v := 16) kx_171_131 (by decide) ?_
  refine b_newI (i := 71) (M' := toM bU_189) kx_171_133 rfl (by decide) ⟨by decide, by decide⟩ rfl ?_
  refine s_putf (k := 63) (f := 21) (M' := toM bU_190) kx_171_135 kp_171_75 (bt_at rfl (by decide)) kf_12_21 rfl (Or.inr ⟨kn_171, ki_171⟩) rfl ?_
  refine s_aload_n kx_171_138 rfl ?_
  refine s_bipush (v := 16) kx_171_139 (by decide) ?_
  refine b_newI (i := 72) (M' := toM bU_191) kx_171_141 rfl (by decide) ⟨by decide, by decide⟩ rfl ?_
  refine s_putf (k := 63) (f := 22) (M' := toM bU_192) kx_171_143 kp_171_78 (bt_at rfl (by decide)) kf_12_22 rfl (Or.inr ⟨kn_171, ki_171⟩) rfl ?_
  refine s_aload_n kx_171_146 rfl ?_
  refine s_bipush (v := 16) kx_171_147 (by decide) ?_
  refine b_newI (i := 73) (M' := toM bU_193) kx_171_149 rfl (by decide) ⟨by decide, by decide⟩ rfl ?_
  refine s_putf (k := 63) (f := 23) (M' := toM bU_194) kx_171_151 kp_171_81 (bt_at rfl (by decide)) kf_12_23 rfl (Or.inr ⟨kn_171, ki_171⟩) rfl ?_
  refine s_aload_n kx_171_154 rfl ?_
  refine s_bipush (v := 16) kx_171_155 (by decide) ?_
  refine b_newI (i := 74) (M' := toM bU_195) kx_171_157 rfl (by decide) ⟨by decide, by decide⟩ rfl ?_
  refine s_putf (k := 63) (f := 24) (M' := toM bU_196) kx_171_159 kp_171_84 (bt_at rfl (by decide)) kf_12_24 rfl (Or.inr ⟨kn_171, ki_171⟩) rfl ?_
  refine s_aload_n kx_171_162 rfl ?_
  refine s_iconst (v := 2) kx_171_163 (by decide) ?_
  refine b_newI (i := 75) (M' := toM bU_197) kx_171_164 rfl (by decide) ⟨by decide, by decide⟩ rfl ?_
  refine s_putf (k := 63) (f := 25) (M' := toM bU_198) kx_171_166 kp_171_87 (bt_at rfl (by decide)) kf_12_25 rfl (Or.inr ⟨kn_171, ki_171⟩) rfl ?_
  refine s_aload_n kx_171_169 rfl ?_
  refine s_iconst (v := 2) kx_171_170 (by decide) ?_
  refine b_newI (i := 76) (M' := toM bU_199) kx_171_171 rfl (by decide) ⟨by decide, by decide⟩ rfl ?_
  refine s_putf (k := 63) (f := 26) (M' := toM bU_200) kx_171_173 kp_171_90 (bt_at rfl (by decide)) kf_12_26 rfl (Or.inr ⟨kn_171, ki_171⟩) rfl ?_
  refine s_aload_n kx_171_176 rfl ?_
  refine s_iconst (v := 2) kx_171_177 (by decide) ?_
  refine b_newI (i := 77) (M' := toM bU_201) kx_171_178 rfl (by decide) ⟨by decide, by decide⟩ rfl ?_
  refine s_putf (k := 63) (f := 27) (M' := toM bU_202) kx_171_180 kp_171_93 (bt_at rfl (by decide)) kf_12_27 rfl (Or.inr ⟨kn_171, ki_171⟩) rfl ?_
  refine s_aload_n kx_171_183 rfl ?_
  refine s_iconst (v := 2) kx_171_184 (by decide) ?_
  refine b_newI (i := 78) (M' := toM bU_203) kx_171_185 rfl (by decide) ⟨by decide, by decide⟩ rfl ?_
  refine s_putf (k := 63) (f := 28) (M' := toM bU_204) kx_171_187 kp_171_96 (bt_at rfl (by decide)) kf_12_28 rfl (Or.inr ⟨kn_171, ki_171⟩) rfl ?_
  refine s_aload_n kx_171_190 rfl ?_
  refine s_iconst (v := 2) kx_171_191 (by decide) ?_
  refine b_newI (i := 79) (M' := toM bU_205) kx_171_192 rfl (by decide) ⟨by decide, by decide⟩ rfl ?_
  refine s_putf (k := 63) (f := 29) (M' := toM bU_206) kx_171_194 kp_171_99 (bt_at rfl (by decide)) kf_12_29 rfl (Or.inr ⟨kn_171, ki_171⟩) rfl ?_
  refine s_aload_n kx_171_197 rfl ?_
  refine s_iconst (v := 2) kx_171_198 (by decide) ?_
  refine b_newI (i := 80) (M' := toM bU_207) kx_171_199 rfl (by decide) ⟨by decide, by decide⟩ rfl ?_
  refine s_putf (k := 63) (f := 30) (M' := toM bU_208) kx_171_201 kp_171_102 (bt_at rfl (by decide)) kf_12_30 rfl (Or.inr ⟨kn_171, ki_171⟩) rfl ?_
  refine s_aload_n kx_171_204 rfl ?_
  refine s_sipush (v := 3200) kx_171_205 (by decide) ?_
  refine b_newI (i := 81) (M' := toM bU_209) kx_171_208 rfl (by decide) ⟨by decide, by decide⟩ rfl ?_
  refine s_putf (k := 63) (f := 31) (M' := toM bU_210) kx_171_210 kp_171_105 (bt_at rfl (by decide)) kf_12_31 rfl (Or.inr ⟨kn_171, ki_171⟩) rfl ?_
  refine s_aload_n kx_171_213 rfl ?_
  refine s_sipush (v := 3200) kx_171_214 (by decide) ?_
  refine b_newI (i := 82) (M' := toM bU_211) kx_171_217 rfl (by decide) ⟨by decide, by decide⟩ rfl ?_
  refine s_putf (k := 63) (f := 32) (M' := toM bU_212) kx_171_219 kp_171_108 (bt_at rfl (by decide)) kf_12_32 rfl (Or.inr ⟨kn_171, ki_171⟩) rfl ?_
  refine s_aload_n kx_171_222 rfl ?_
  refine s_bipush (v := 16) kx_171_223 (by decide) ?_
  refine b_newJ (i := 83) (M' := toM bU_213) kx_171_225 rfl (by decide) ⟨by decide, by decide⟩ rfl ?_
  refine s_putf (k := 63) (f := 33) (M' := toM bU_214) kx_171_227 kp_171_111 (bt_at rfl (by decide)) kf_12_33 rfl (Or.inr ⟨kn_171, ki_171⟩) rfl ?_
  refine s_aload_n kx_171_230 rfl ?_
  refine s_bipush (v := 16) kx_171_231 (by decide) ?_
  refine b_newJ (i := 84) (M' := toM bU_215) kx_171_233 rfl (by decide) ⟨by decide, by decide⟩ rfl ?_
  refine s_putf (k := 63) (f := 34) (M' := toM bU_216) kx_171_235 kp_171_115 (bt_at rfl (by decide)) kf_12_34 rfl (Or.inr ⟨kn_171, ki_171⟩) rfl ?_
  refine s_aload_n kx_171_238 rfl ?_
  refine s_iconst (v := 0) kx_171_239 (by decide) ?_
  refine s_putf (k := 63) (f := 35) (M' := toM bU_217) kx_171_240 kp_171_118 (bt_at rfl (by decide)) kf_12_35 rfl (Or.inl (by decide)) rfl ?_
  refine s_aload_n kx_171_243 rfl ?_
  refine s_iconst (v := 1) kx_171_244 (by decide) ?_
  refine s_putf (k := 63) (f := 36) (M' := toM bU_218) kx_171_245 kp_171_121 (bt_at rfl (by decide)) kf_12_36 rfl (Or.inl (by decide)) rfl ?_
  refine s_aload_n kx_171_248 rfl ?_
  refine s_bipush (v := 20) kx_171_249 (by decide) ?_
  refine b_newI (i := 85) (M' := toM bU_219) kx_171_251 rfl (by decide) ⟨by decide, by decide⟩ rfl ?_
  refine s_putf (k := 63) (f := 37) (M' := toM bU_220) kx_171_253 kp_171_124 (bt_at rfl (by decide)) kf_12_37 rfl (Or.inr ⟨kn_171, ki_171⟩) rfl ?_
  refine s_aload_n kx_171_256 rfl ?_
  refine s_bipush (v := 20) kx_171_257 (by decide) ?_
  refine b_newI (i := 86) (M' := toM bU_221) kx_171_259 rfl (by decide) ⟨by decide, by decide⟩ rfl ?_
  refine s_putf (k := 63) (f := 38) (M' := toM bU_222) kx_171_261 kp_171_127 (bt_at rfl (by decide)) kf_12_38 rfl (Or.inr ⟨kn_171, ki_171⟩) rfl ?_
  refine s_aload_n kx_171_264 rfl ?_
  refine s_bipush (v := 20) kx_171_265 (by decide) ?_
  refine b_newZ (i := 87) (M' := toM bU_223) kx_171_267 rfl (by decide) ⟨by decide, by decide⟩ rfl ?_
  refine s_putf (k := 63) (f := 39) (M' := toM bU_224) kx_171_269 kp_171_130 (bt_at rfl (by decide)) kf_12_39 rfl (Or.inr ⟨kn_171, ki_171⟩) rfl ?_
  refine s_aload_n kx_171_272 rfl ?_
  refine s_bipush (v := 20) kx_171_273 (by decide) ?_
  refine b_newI (i := 88) (M' := toM bU_225) kx_171_275 rfl (by decide) ⟨by decide, by decide⟩ rfl ?_
  refine s_putf (k := 63) (f := 40) (M' := toM bU_226) kx_171_277 kp_171_134 (bt_at rfl (by decide)) kf_12_40 rfl (Or.inr ⟨kn_171, ki_171⟩) rfl ?_
  refine s_aload_n kx_171_280 rfl ?_
  refine s_bipush (v := 20) kx_171_281 (by decide) ?_
  refine b_newI (i := 89) (M' := toM bU_227) kx_171_283 rfl (by decide) ⟨by decide, by decide⟩ rfl ?_
  refine s_putf (k := 63) (f := 41) (M' := toM bU_228) kx_171_285 kp_171_137 (bt_at rfl (by decide)) kf_12_41 rfl (Or.inr ⟨kn_171, ki_171⟩) rfl ?_
  refine s_aload_n kx_171_288 rfl ?_
  refine s_iconst (v := 0) kx_171_289 (by decide) ?_
  refine s_putf (k := 63) (f := 42) (M' := toM bU_229) kx_171_290 kp_171_140 (bt_at rfl (by decide)) kf_12_42 rfl (Or.inl (by decide)) rfl ?_
  refine s_aload_n kx_171_293 rfl ?_
  refine s_iconst (v := 0) kx_171_294 (by decide) ?_
  refine s_putf (k := 63) (f := 43) (M' := toM bU_230) kx_171_295 kp_171_143 (bt_at rfl (by decide)) kf_12_43 rfl (Or.inl (by decide)) rfl ?_
  refine s_aload_n kx_171_298 rfl ?_
  refine s_sipush (v := 500) kx_171_299 (by decide) ?_
  refine b_newI (i := 90) (M' := toM bU_231) kx_171_302 rfl (by decide) ⟨by decide, by decide⟩ rfl ?_
  refine s_putf (k := 63) (f := 44) (M' := toM bU_232) kx_171_304 kp_171_146 (bt_at rfl (by decide)) kf_12_44 rfl (Or.inr ⟨kn_171, ki_171⟩) rfl ?_
  refine s_aload_n kx_171_307 rfl ?_
  refine s_iconst (v := 0) kx_171_308 (by decide) ?_
  refine s_putf (k := 63) (f := 45) (M' := toM bU_233) kx_171_309 kp_171_149 (bt_at rfl (by decide)) kf_12_45 rfl (Or.inl (by decide)) rfl ?_
  refine s_aload_n kx_171_312 rfl ?_
  refine s_iconst (v := 0) kx_171_313 (by decide) ?_
  refine s_putf (k := 63) (f := 46) (M' := toM bU_234) kx_171_314 kp_171_152 (bt_at rfl (by decide)) kf_12_46 rfl (Or.inl (by decide)) rfl ?_
  refine s_aload_n kx_171_317 rfl ?_
  refine s_bipush (v := 6) kx_171_318 (by decide) ?_
  refine b_newI (i := 91) (M' := toM bU_235) kx_171_320 rfl (by decide) ⟨by decide, by decide⟩ rfl ?_
  refine s_putf (k := 63) (f := 47) (M' := toM bU_236) kx_171_322 kp_171_156 (bt_at rfl (by decide)) kf_12_47 rfl (Or.inr ⟨kn_171, ki_171⟩) rfl ?_
  refine s_aload_n kx_171_325 rfl ?_
  refine s_sipush (v := 176) kx_171_326 (by decide) ?_
  refine b_newI (i := 92) (M' := toM bU_237) kx_171_329 rfl (by decide) ⟨by decide, by decide⟩ rfl ?_
  refine s_putf (k := 63) (f := 48) (M' := toM bU_238) kx_171_331 kp_171_159 (bt_at rfl (by decide)) kf_12_48 rfl (Or.inr ⟨kn_171, ki_171⟩) rfl ?_
  refine s_aload_n kx_171_334 rfl ?_
  refine s_sipush (v := 176) kx_171_335 (by decide) ?_
  refine b_newI (i := 93) (M' := toM bU_239) kx_171_338 rfl (by decide) ⟨by decide, by decide⟩ rfl ?_
  refine s_putf (k := 63) (f := 49) (M' := toM bU_240) kx_171_340 kp_171_162 (bt_at rfl (by decide)) kf_12_49 rfl (Or.inr ⟨kn_171, ki_171⟩) rfl ?_
  refine s_aload_n kx_171_343 rfl ?_
  refine s_sipush (v := 176) kx_171_344 (by decide) ?_
  refine b_newI (i := 94) (M' := toM bU_241) kx_171_347 rfl (by decide) ⟨by decide, by decide⟩ rfl ?_
  refine s_putf (k := 63) (f := 50) (M' := toM bU_242) kx_171_349 kp_171_165 (bt_at rfl (by decide)) kf_12_50 rfl (Or.inr ⟨kn_171, ki_171⟩) rfl ?_
  refine s_aload_n kx_171_352 rfl ?_
  refine s_sipush (v := 176) kx_171_353 (by decide) ?_
  refine b_newI (i := 95) (M' := toM bU_243) kx_171_356 rfl (by decide) ⟨by decide, by decide⟩ rfl ?_
  refine s_putf (k := 63) (f := 51) (M' := toM bU_244) kx_171_358 kp_171_168 (bt_at rfl (by decide)) kf_12_51 rfl (Or.inr ⟨kn_171, ki_171⟩) rfl ?_
  refine s_aload_n kx_171_361 rfl ?_
  refine s_sipush (v := 176) kx_171_362 (by decide) ?_
  refine b_newI (i := 96) (M' := toM bU_245) kx_171_365 rfl (by decide) ⟨by decide, by decide⟩ rfl ?_
  refine s_putf (k := 63) (f := 52) (M' := toM bU_246) kx_171_367 kp_171_171 (bt_at rfl (by decide)) kf_12_52 rfl (Or.inr ⟨kn_171, ki_171⟩) rfl ?_
  refine s_aload_n kx_171_370 rfl ?_
  refine s_bipush (v := 22) kx_171_371 (by decide) ?_
  refine b_newI (i := 97) (M' := toM bU_247) kx_171_373 rfl (by decide) ⟨by decide, by decide⟩ rfl ?_
  refine s_putf (k := 63) (f := 53) (M' := toM bU_248) kx_171_375 kp_171_174 (bt_at rfl (by decide)) kf_12_53 rfl (Or.inr ⟨kn_171, ki_171⟩) rfl ?_
  refine s_aload_n kx_171_378 rfl ?_
  refine s_sipush (v := 880) kx_171_379 (by decide) ?_
  refine b_newI (i := 98) (M' := toM bU_249) kx_171_382 rfl (by decide) ⟨by decide, by decide⟩ rfl ?_
  refine s_putf (k := 63) (f := 54) (M' := toM bU_250) kx_171_384 kp_171_177 (bt_at rfl (by decide)) kf_12_54 rfl (Or.inr ⟨kn_171, ki_171⟩) rfl ?_
  refine s_aload_n kx_171_387 rfl ?_
  refine s_sipush (v := 880) kx_171_388 (by decide) ?_
  refine b_newI (i := 99) (M' := toM bU_251) kx_171_391 rfl (by decide) ⟨by decide, by decide⟩ rfl ?_
  refine s_putf (k := 63) (f := 55) (M' := toM bU_252) kx_171_393 kp_171_180 (bt_at rfl (by decide)) kf_12_55 rfl (Or.inr ⟨kn_171, ki_171⟩) rfl ?_
  refine s_aload_n kx_171_396 rfl ?_
  refine s_sipush (v := 880) kx_171_397 (by decide) ?_
  refine b_newI (i := 100) (M' := toM bU_253) kx_171_400 rfl (by decide) ⟨by decide, by decide⟩ rfl ?_
  refine s_putf (k := 63) (f := 56) (M' := toM bU_254) kx_171_402 kp_171_183 (bt_at rfl (by decide)) kf_12_56 rfl (Or.inr ⟨kn_171, ki_171⟩) rfl ?_
  refine s_aload_n kx_171_405 rfl ?_
  refine s_sipush (v := 880) kx_171_406 (by decide) ?_
  refine b_newI (i := 101) (M' := toM bU_255) kx_171_409 rfl (by decide) ⟨by decide, by decide⟩ rfl ?_
  refine s_putf (k := 63) (f := 57) (M' := toM bU_256) kx_171_411 kp_171_186 (bt_at rfl (by decide)) kf_12_57 rfl (Or.inr ⟨kn_171, ki_171⟩) rfl ?_
  refine s_aload_n kx_171_414 rfl ?_
  refine s_iconst (v := 0) kx_171_415 (by decide) ?_
  refine s_putf (k := 63) (f := 58) (M' := toM bU_257) kx_171_416 kp_171_189 (bt_at rfl (by decide)) kf_12_58 rfl (Or.inl (by decide)) rfl ?_
  refine s_aload_n kx_171_419 rfl ?_
  refine s_iconst (v := 0) kx_171_420 (by decide) ?_
  refine s_putf (k := 63) (f := 59) (M' := toM bU_258) kx_171_421 kp_171_192 (bt_at rfl (by decide)) kf_12_59 rfl (Or.inl (by decide)) rfl ?_
  refine s_aload_n kx_171_424 rfl ?_
  refine s_lconst (v := 1) kx_171_425 (by decide) ?_
  refine s_putf (k := 63) (f := 60) (M' := toM bU_259) kx_171_426 kp_171_195 (bt_at rfl (by decide)) kf_12_60 rfl (Or.inl (by decide)) rfl ?_
  refine s_aload_n kx_171_429 rfl ?_
  refine s_sipush (v := 500) kx_171_430 (by decide) ?_
  refine b_newJ (i := 102) (M' := toM bU_260) kx_171_433 rfl (by decide) ⟨by decide, by decide⟩ rfl ?_
  refine s_putf (k := 63) (f := 61) (M' := toM bU_261) kx_171_435 kp_171_198 (bt_at rfl (by decide)) kf_12_61 rfl (Or.inr ⟨kn_171, ki_171⟩) rfl ?_
  refine s_aload_n kx_171_438 rfl ?_
  refine s_iconst (v := 0) kx_171_439 (by decide) ?_
  refine s_putf (k := 63) (f := 62) (M' := toM bU_262) kx_171_440 kp_171_201 (bt_at rfl (by decide)) kf_12_62 rfl (Or.inl (by decide)) rfl ?_
  refine s_aload_n kx_171_443 rfl ?_
  refine s_iconst (v := 0) kx_171_444 (by decide) ?_
  refine s_putf (k := 63) (f := 63) (M' := toM bU_263) kx_171_445 kp_171_204 (bt_at rfl (by decide)) kf_12_63 rfl (Or.inl (by decide)) rfl ?_
  refine s_aload_n kx_171_448 rfl ?_
  refine s_iconst (v := 0) kx_171_449 (by decide) ?_
  refine s_putf (k := 63) (f := 64) (M' := toM bU_264) kx_171_450 kp_171_207 (bt_at rfl (by decide)) kf_12_64 rfl (Or.inl (by decide)) rfl ?_
  refine s_aload_n kx_171_453 rfl ?_
  refine s_bipush (v := 64) kx_171_454 (by decide) ?_
  refine b_newI (i := 103) (M' := toM bU_265) kx_171_456 rfl (by decide) ⟨by decide, by decide⟩ rfl ?_
  refine s_putf (k := 63) (f := 65) (M' := toM bU_266) kx_171_458 kp_171_210 (bt_at rfl (by decide)) kf_12_65 rfl (Or.inr ⟨kn_171, ki_171⟩) rfl ?_
  refine s_aload_n kx_171_461 rfl ?_
  refine s_bipush (v := 64) kx_171_462 (by decide) ?_
  refine b_newI (i := 104) (M' := toM bU_267) kx_171_464 rfl (by decide) ⟨by decide, by decide⟩ rfl ?_
  refine s_putf (k := 63) (f := 66) (M' := toM bU_268) kx_171_466 kp_171_213 (bt_at rfl (by decide)) kf_12_66 rfl (Or.inr ⟨kn_171, ki_171⟩) rfl ?_
  refine s_aload_n kx_171_469 rfl ?_
  refine s_bipush (v := 8) kx_171_470 (by decide) ?_
  refine b_newI (i := 105) (M' := toM bU_269) kx_171_472 rfl (by decide) ⟨by decide, by decide⟩ rfl ?_
  refine s_putf (k := 63) (f := 67) (M' := toM bU_270) kx_171_474 kp_171_216 (bt_at rfl (by decide)) kf_12_67 rfl (Or.inr ⟨kn_171, ki_171⟩) rfl ?_
  refine s_aload_n kx_171_477 rfl ?_
  refine s_iconst (v := 0) kx_171_478 (by decide) ?_
  refine s_putf (k := 63) (f := 68) (M' := toM bU_271) kx_171_479 kp_171_219 (bt_at rfl (by decide)) kf_12_68 rfl (Or.inl (by decide)) rfl ?_
  refine s_aload_n kx_171_482 rfl ?_
  refine s_bipush (v := 12) kx_171_483 (by decide) ?_
  refine b_newI (i := 106) (M' := toM bU_272) kx_171_485 rfl (by decide) ⟨by decide, by decide⟩ rfl ?_
  refine s_putf (k := 63) (f := 69) (M' := toM bU_273) kx_171_487 kp_171_222 (bt_at rfl (by decide)) kf_12_69 rfl (Or.inr ⟨kn_171, ki_171⟩) rfl ?_
  refine s_aload_n kx_171_490 rfl ?_
  refine s_iconst (v := 0) kx_171_491 (by decide) ?_
  refine s_putf (k := 63) (f := 70) (M' := toM bU_274) kx_171_492 kp_171_225 (bt_at rfl (by decide)) kf_12_70 rfl (Or.inl (by decide)) rfl ?_
  refine s_aload_n kx_171_495 rfl ?_
  refine s_bipush (v := 64) kx_171_496 (by decide) ?_
  refine b_newI (i := 107) (M' := toM bU_275) kx_171_498 rfl (by decide) ⟨by decide, by decide⟩ rfl ?_
  refine s_putf (k := 63) (f := 71) (M' := toM bU_276) kx_171_500 kp_171_228 (bt_at rfl (by decide)) kf_12_71 rfl (Or.inr ⟨kn_171, ki_171⟩) rfl ?_
  refine s_aload_n kx_171_503 rfl ?_
  refine s_iconst (v := 0) kx_171_504 (by decide) ?_
  refine s_putf (k := 63) (f := 72) (M' := toM bU_277) kx_171_505 kp_171_231 (bt_at rfl (by decide)) kf_12_72 rfl (Or.inl (by decide)) rfl ?_
  refine s_aload_n kx_171_508 rfl ?_
  refine s_bipush (v := 8) kx_171_509 (by decide) ?_
  refine b_newI (i := 108) (M' := toM bU_278) kx_171_511 rfl (by decide) ⟨by decide, by decide⟩ rfl ?_
  refine s_putf (k := 63) (f := 73) (M' := toM bU_279) kx_171_513 kp_171_234 (bt_at rfl (by decide)) kf_12_73 rfl (Or.inr ⟨kn_171, ki_171⟩) rfl ?_
  refine s_aload_n kx_171_516 rfl ?_
  refine s_bipush (v := 8) kx_171_517 (by decide) ?_
  refine b_newI (i := 109) (M' := toM bU_280) kx_171_519 rfl (by decide) ⟨by decide, by decide⟩ rfl ?_
  refine s_putf (k := 63) (f := 74) (M' := toM bU_281) kx_171_521 kp_171_237 (bt_at rfl (by decide)) kf_12_74 rfl (Or.inr ⟨kn_171, ki_171⟩) rfl ?_
  refine s_aload_n kx_171_524 rfl ?_
  refine s_sipush (v := 600) kx_171_525 (by decide) ?_
  refine b_newI (i := 110) (M' := toM bU_282) kx_171_528 rfl (by decide) ⟨by decide, by decide⟩ rfl ?_
  refine s_putf (k := 63) (f := 75) (M' := toM bU_283) kx_171_530 kp_171_240 (bt_at rfl (by decide)) kf_12_75 rfl (Or.inr ⟨kn_171, ki_171⟩) rfl ?_
  refine s_aload_n kx_171_533 rfl ?_
  refine s_sipush (v := 600) kx_171_534 (by decide) ?_
  refine b_newI (i := 111) (M' := toM bU_284) kx_171_537 rfl (by decide) ⟨by decide, by decide⟩ rfl ?_
  refine s_putf (k := 63) (f := 76) (M' := toM bU_285) kx_171_539 kp_171_243 (bt_at rfl (by decide)) kf_12_76 rfl (Or.inr ⟨kn_171, ki_171⟩) rfl ?_
  refine s_aload_n kx_171_542 rfl ?_
  refine s_bipush (v := 8) kx_171_543 (by decide) ?_
  refine b_newI (i := 112) (M' := toM bU_286) kx_171_545 rfl (by decide) ⟨by decide, by decide⟩ rfl ?_
  refine s_putf (k := 63) (f := 77) (M' := toM bU_287) kx_171_547 kp_171_246 (bt_at rfl (by decide)) kf_12_77 rfl (Or.inr ⟨kn_171, ki_171⟩) rfl ?_
  refine s_aload_n kx_171_550 rfl ?_
  refine s_bipush (v := 80) kx_171_551 (by decide) ?_
  refine b_newI (i := 113) (M' := toM bU_288) kx_171_553 rfl (by decide) ⟨by decide, by decide⟩ rfl ?_
  refine s_putf (k := 63) (f := 78) (M' := toM bU_289) kx_171_555 kp_171_249 (bt_at rfl (by decide)) kf_12_78 rfl (Or.inr ⟨kn_171, ki_171⟩) rfl ?_
  refine s_aload_n kx_171_558 rfl ?_
  refine s_iconst (v := 0) kx_171_559 (by decide) ?_
  refine s_putf (k := 63) (f := 79) (M' := toM bU_290) kx_171_560 kp_171_252 (bt_at rfl (by decide)) kf_12_79 rfl (Or.inl (by decide)) rfl ?_
  refine s_aload_n kx_171_563 rfl ?_
  refine s_getf (k := 63) (f := 25) (v := rf 75) kx_171_564 kp_171_87 (bt_at rfl (by decide)) kf_12_25 (by decide +kernel) ?_
  refine s_iconst (v := 0) kx_171_567 (by decide) ?_
  refine s_iconst (v := (-1)) kx_171_568 (by decide) ?_
  refine s_iast (k := 75) (M' := toM bU_291) kx_171_569 (bt_at rfl (by decide)) ⟨by decide, by decide⟩ rfl ?_
  refine s_aload_n kx_171_570 rfl ?_
  refine s_getf (k := 63) (f := 27) (v := rf 77) kx_171_571 kp_171_93 (bt_at rfl (by decide)) kf_12_27 (by decide +kernel) ?_
  refine s_iconst (v := 0) kx_171_574 (by decide) ?_
  refine s_iconst (v := (-1)) kx_171_575 (by decide) ?_
  refine s_iast (k := 77) (M' := toM bU_292) kx_171_576 (bt_at rfl (by decide)) ⟨by decide, by decide⟩ rfl ?_
  refine s_aload_n kx_171_577 rfl ?_
  refine s_getf (k := 63) (f := 30) (v := rf 80) kx_171_578 kp_171_102 (bt_at rfl (by decide)) kf_12_30 (by decide +kernel) ?_
  refine s_iconst (v := 0) kx_171_581 (by decide) ?_
  refine s_iconst (v := (-1)) kx_171_582 (by decide) ?_
  refine s_iast (k := 80) (M' := toM bU_293) kx_171_583 (bt_at rfl (by decide)) ⟨by decide, by decide⟩ rfl ?_
  refine s_iconst (v := 0) kx_171_584 (by decide) ?_
  refine s_istore_n kx_171_585 km_171_1 rfl ?_
  refine s_iload_n kx_171_586 rfl ?_
  refine s_bipush (v := 16) kx_171_587 (by decide) ?_
  refine s_icmp_ge (t := 605) kx_171_589 (by decide) (fun h => absurd h (by decide)) (fun _ => ?_)
  refine s_aload_n kx_171_592 rfl ?_
  refine s_getf (k := 63) (f := 24) (v := rf 74) kx_171_593 kp_171_84 (bt_at rfl (by decide)) kf_12_24 (by decide +kernel) ?_
  refine s_iload_n kx_171_596 rfl ?_
  refine s_iconst (v := (-1)) kx_171_597 (by decide) ?_
  refine s_iast (k := 74) (M' := toM bU_294) kx_171_598 (bt_at rfl (by decide)) ⟨by decide, by decide⟩ rfl ?_
  refine s_iinc (w := 1) kx_171_599 rfl km_171_1 (by decide) rfl ?_
  refine s_goto (t := 586) kx_171_602 (by decide) ?_
  refine s_iload_n kx_171_586 rfl ?_
  refine s_bipush (v := 16) kx_171_587 (by decide) ?_
  refine s_icmp_ge (t := 605) kx_171_589 (by decide) (fun h => absurd h (by decide)) (fun _ => ?_)
  refine s_aload_n kx_171_592 rfl ?_
  refine s_getf (k := 63) (f := 24) (v := rf 74) kx_171_593 kp_171_84 (bt_at rfl (by decide)) kf_12_24 (by decide +kernel) ?_
  refine s_iload_n kx_171_596 rfl ?_
  refine s_iconst (v := (-1)) kx_171_597 (by decide) ?_
  refine s_iast (k := 74) (M' := toM bU_295) kx_171_598 (bt_at rfl (by decide)) ⟨by decide, by decide⟩ rfl ?_
  refine s_iinc (w := 2) kx_171_599 rfl km_171_1 (by decide) rfl ?_
  refine s_goto (t := 586) kx_171_602 (by decide) ?_
  refine s_iload_n kx_171_586 rfl ?_
  refine s_bipush (v := 16) kx_171_587 (by decide) ?_
  refine s_icmp_ge (t := 605) kx_171_589 (by decide) (fun h => absurd h (by decide)) (fun _ => ?_)
  refine s_aload_n kx_171_592 rfl ?_
  refine s_getf (k := 63) (f := 24) (v := rf 74) kx_171_593 kp_171_84 (bt_at rfl (by decide)) kf_12_24 (by decide +kernel) ?_
  refine s_iload_n kx_171_596 rfl ?_
  refine s_iconst (v := (-1)) kx_171_597 (by decide) ?_
  refine s_iast (k := 74) (M' := toM bU_296) kx_171_598 (bt_at rfl (by decide)) ⟨by decide, by decide⟩ rfl ?_
  refine s_iinc (w := 3) kx_171_599 rfl km_171_1 (by decide) rfl ?_
  refine s_goto (t := 586) kx_171_602 (by decide) ?_
  refine s_iload_n kx_171_586 rfl ?_
  refine s_bipush (v := 16) kx_171_587 (by decide) ?_
  refine s_icmp_ge (t := 605) kx_171_589 (by decide) (fun h => absurd h (by decide)) (fun _ => ?_)
  refine s_aload_n kx_171_592 rfl ?_
  refine s_getf (k := 63) (f := 24) (v := rf 74) kx_171_593 kp_171_84 (bt_at rfl (by decide)) kf_12_24 (by decide +kernel) ?_
  refine s_iload_n kx_171_596 rfl ?_
  refine s_iconst (v := (-1)) kx_171_597 (by decide) ?_
  refine s_iast (k := 74) (M' := toM bU_297) kx_171_598 (bt_at rfl (by decide)) ⟨by decide, by decide⟩ rfl ?_
  refine s_iinc (w := 4) kx_171_599 rfl km_171_1 (by decide) rfl ?_
  refine s_goto (t := 586) kx_171_602 (by decide) ?_
  refine s_iload_n kx_171_586 rfl ?_
  refine s_bipush (v := 16) kx_171_587 (by decide) ?_
  refine s_icmp_ge (t := 605) kx_171_589 (by decide) (fun h => absurd h (by decide)) (fun _ => ?_)
  refine s_aload_n kx_171_592 rfl ?_
  refine s_getf (k := 63) (f := 24) (v := rf 74) kx_171_593 kp_171_84 (bt_at rfl (by decide)) kf_12_24 (by decide +kernel) ?_
  refine s_iload_n kx_171_596 rfl ?_
  refine s_iconst (v := (-1)) kx_171_597 (by decide) ?_
  refine s_iast (k := 74) (M' := toM bU_298) kx_171_598 (bt_at rfl (by decide)) ⟨by decide, by decide⟩ rfl ?_
  refine s_iinc (w := 5) kx_171_599 rfl km_171_1 (by decide) rfl ?_
  refine s_goto (t := 586) kx_171_602 (by decide) ?_
  refine s_iload_n kx_171_586 rfl ?_
  refine s_bipush (v := 16) kx_171_587 (by decide) ?_
  refine s_icmp_ge (t := 605) kx_171_589 (by decide) (fun h => absurd h (by decide)) (fun _ => ?_)
  refine s_aload_n kx_171_592 rfl ?_
  refine s_getf (k := 63) (f := 24) (v := rf 74) kx_171_593 kp_171_84 (bt_at rfl (by decide)) kf_12_24 (by decide +kernel) ?_
  refine s_iload_n kx_171_596 rfl ?_
  refine s_iconst (v := (-1)) kx_171_597 (by decide) ?_
  refine s_iast (k := 74) (M' := toM bU_299) kx_171_598 (bt_at rfl (by decide)) ⟨by decide, by decide⟩ rfl ?_
  refine s_iinc (w := 6) kx_171_599 rfl km_171_1 (by decide) rfl ?_
  refine s_goto (t := 586) kx_171_602 (by decide) ?_
  refine s_iload_n kx_171_586 rfl ?_
  refine s_bipush (v := 16) kx_171_587 (by decide) ?_
  refine s_icmp_ge (t := 605) kx_171_589 (by decide) (fun h => absurd h (by decide)) (fun _ => ?_)
  refine s_aload_n kx_171_592 rfl ?_
  refine s_getf (k := 63) (f := 24) (v := rf 74) kx_171_593 kp_171_84 (bt_at rfl (by decide)) kf_12_24 (by decide +kernel) ?_
  refine s_iload_n kx_171_596 rfl ?_
  refine s_iconst (v := (-1)) kx_171_597 (by decide) ?_
  refine s_iast (k := 74) (M' := toM bU_300) kx_171_598 (bt_at rfl (by decide)) ⟨by decide, by decide⟩ rfl ?_
  refine s_iinc (w := 7) kx_171_599 rfl km_171_1 (by decide) rfl ?_
  refine s_goto (t := 586) kx_171_602 (by decide) ?_
  refine s_iload_n kx_171_586 rfl ?_
  refine s_bipush (v := 16) kx_171_587 (by decide) ?_
  refine s_icmp_ge (t := 605) kx_171_589 (by decide) (fun h => absurd h (by decide)) (fun _ => ?_)
  refine s_aload_n kx_171_592 rfl ?_
  refine s_getf (k := 63) (f := 24) (v := rf 74) kx_171_593 kp_171_84 (bt_at rfl (by decide)) kf_12_24 (by decide +kernel) ?_
  refine s_iload_n kx_171_596 rfl ?_
  refine s_iconst (v := (-1)) kx_171_597 (by decide) ?_
  refine s_iast (k := 74) (M' := toM bU_301) kx_171_598 (bt_at rfl (by decide)) ⟨by decide, by decide⟩ rfl ?_
  refine s_iinc (w := 8) kx_171_599 rfl km_171_1 (by decide) rfl ?_
  refine s_goto (t := 586) kx_171_602 (by decide) ?_
  refine s_iload_n kx_171_586 rfl ?_
  refine s_bipush (v := 16) kx_171_587 (by decide) ?_
  refine s_icmp_ge (t := 605) kx_171_589 (by decide) (fun h => absurd h (by decide)) (fun _ => ?_)
  refine s_aload_n kx_171_592 rfl ?_
  refine s_getf (k := 63) (f := 24) (v := rf 74) kx_171_593 kp_171_84 (bt_at rfl (by decide)) kf_12_24 (by decide +kernel) ?_
  refine s_iload_n kx_171_596 rfl ?_
  refine s_iconst (v := (-1)) kx_171_597 (by decide) ?_
  refine s_iast (k := 74) (M' := toM bU_302) kx_171_598 (bt_at rfl (by decide)) ⟨by decide, by decide⟩ rfl ?_
  refine s_iinc (w := 9) kx_171_599 rfl km_171_1 (by decide) rfl ?_
  refine s_goto (t := 586) kx_171_602 (by decide) ?_
  refine s_iload_n kx_171_586 rfl ?_
  refine s_bipush (v := 16) kx_171_587 (by decide) ?_
  refine s_icmp_ge (t := 605) kx_171_589 (by decide) (fun h => absurd h (by decide)) (fun _ => ?_)
  refine s_aload_n kx_171_592 rfl ?_
  refine s_getf (k := 63) (f := 24) (v := rf 74) kx_171_593 kp_171_84 (bt_at rfl (by decide)) kf_12_24 (by decide +kernel) ?_
  refine s_iload_n kx_171_596 rfl ?_
  refine s_iconst (v := (-1)) kx_171_597 (by decide) ?_
  refine s_iast (k := 74) (M' := toM bU_303) kx_171_598 (bt_at rfl (by decide)) ⟨by decide, by decide⟩ rfl ?_
  refine s_iinc (w := 10) kx_171_599 rfl km_171_1 (by decide) rfl ?_
  refine s_goto (t := 586) kx_171_602 (by decide) ?_
  refine s_iload_n kx_171_586 rfl ?_
  refine s_bipush (v := 16) kx_171_587 (by decide) ?_
  refine s_icmp_ge (t := 605) kx_171_589 (by decide) (fun h => absurd h (by decide)) (fun _ => ?_)
  refine s_aload_n kx_171_592 rfl ?_
  refine s_getf (k := 63) (f := 24) (v := rf 74) kx_171_593 kp_171_84 (bt_at rfl (by decide)) kf_12_24 (by decide +kernel) ?_
  refine s_iload_n kx_171_596 rfl ?_
  refine s_iconst (v := (-1)) kx_171_597 (by decide) ?_
  refine s_iast (k := 74) (M' := toM bU_304) kx_171_598 (bt_at rfl (by decide)) ⟨by decide, by decide⟩ rfl ?_
  refine s_iinc (w := 11) kx_171_599 rfl km_171_1 (by decide) rfl ?_
  refine s_goto (t := 586) kx_171_602 (by decide) ?_
  refine s_iload_n kx_171_586 rfl ?_
  refine s_bipush (v := 16) kx_171_587 (by decide) ?_
  refine s_icmp_ge (t := 605) kx_171_589 (by decide) (fun h => absurd h (by decide)) (fun _ => ?_)
  refine s_aload_n kx_171_592 rfl ?_
  refine s_getf (k := 63) (f := 24) (v := rf 74) kx_171_593 kp_171_84 (bt_at rfl (by decide)) kf_12_24 (by decide +kernel) ?_
  refine s_iload_n kx_171_596 rfl ?_
  refine s_iconst (v := (-1)) kx_171_597 (by decide) ?_
  refine s_iast (k := 74) (M' := toM bU_305) kx_171_598 (bt_at rfl (by decide)) ⟨by decide, by decide⟩ rfl ?_
  refine s_iinc (w := 12) kx_171_599 rfl km_171_1 (by decide) rfl ?_
  refine s_goto (t := 586) kx_171_602 (by decide) ?_
  refine s_iload_n kx_171_586 rfl ?_
  refine s_bipush (v := 16) kx_171_587 (by decide) ?_
  refine s_icmp_ge (t := 605) kx_171_589 (by decide) (fun h => absurd h (by decide)) (fun _ => ?_)
  refine s_aload_n kx_171_592 rfl ?_
  refine s_getf (k := 63) (f := 24) (v := rf 74) kx_171_593 kp_171_84 (bt_at rfl (by decide)) kf_12_24 (by decide +kernel) ?_
  refine s_iload_n kx_171_596 rfl ?_
  refine s_iconst (v := (-1)) kx_171_597 (by decide) ?_
  refine s_iast (k := 74) (M' := toM bU_306) kx_171_598 (bt_at rfl (by decide)) ⟨by decide, by decide⟩ rfl ?_
  refine s_iinc (w := 13) kx_171_599 rfl km_171_1 (by decide) rfl ?_
  refine s_goto (t := 586) kx_171_602 (by decide) ?_
  refine s_iload_n kx_171_586 rfl ?_
  refine s_bipush (v := 16) kx_171_587 (by decide) ?_
  refine s_icmp_ge (t := 605) kx_171_589 (by decide) (fun h => absurd h (by decide)) (fun _ => ?_)
  refine s_aload_n kx_171_592 rfl ?_
  refine s_getf (k := 63) (f := 24) (v := rf 74) kx_171_593 kp_171_84 (bt_at rfl (by decide)) kf_12_24 (by decide +kernel) ?_
  refine s_iload_n kx_171_596 rfl ?_
  refine s_iconst (v := (-1)) kx_171_597 (by decide) ?_
  refine s_iast (k := 74) (M' := toM bU_307) kx_171_598 (bt_at rfl (by decide)) ⟨by decide, by decide⟩ rfl ?_
  refine s_iinc (w := 14) kx_171_599 rfl km_171_1 (by decide) rfl ?_
  refine s_goto (t := 586) kx_171_602 (by decide) ?_
  refine s_iload_n kx_171_586 rfl ?_
  refine s_bipush (v := 16) kx_171_587 (by decide) ?_
  refine s_icmp_ge (t := 605) kx_171_589 (by decide) (fun h => absurd h (by decide)) (fun _ => ?_)
  refine s_aload_n kx_171_592 rfl ?_
  refine s_getf (k := 63) (f := 24) (v := rf 74) kx_171_593 kp_171_84 (bt_at rfl (by decide)) kf_12_24 (by decide +kernel) ?_
  refine s_iload_n kx_171_596 rfl ?_
  refine s_iconst (v := (-1)) kx_171_597 (by decide) ?_
  refine s_iast (k := 74) (M' := toM bU_308) kx_171_598 (bt_at rfl (by decide)) ⟨by decide, by decide⟩ rfl ?_
  refine s_iinc (w := 15) kx_171_599 rfl km_171_1 (by decide) rfl ?_
  refine s_goto (t := 586) kx_171_602 (by decide) ?_
  refine s_iload_n kx_171_586 rfl ?_
  refine s_bipush (v := 16) kx_171_587 (by decide) ?_
  refine s_icmp_ge (t := 605) kx_171_589 (by decide) (fun h => absurd h (by decide)) (fun _ => ?_)
  refine s_aload_n kx_171_592 rfl ?_
  refine s_getf (k := 63) (f := 24) (v := rf 74) kx_171_593 kp_171_84 (bt_at rfl (by decide)) kf_12_24 (by decide +kernel) ?_
  refine s_iload_n kx_171_596 rfl ?_
  refine s_iconst (v := (-1)) kx_171_597 (by decide) ?_
  refine s_iast (k := 74) (M' := toM bU_309) kx_171_598 (bt_at rfl (by decide)) ⟨by decide, by decide⟩ rfl ?_
  refine s_iinc (w := 16) kx_171_599 rfl km_171_1 (by decide) rfl ?_
  refine s_goto (t := 586) kx_171_602 (by decide) ?_
  refine s_iload_n kx_171_586 rfl ?_
  refine s_bipush (v := 16) kx_171_587 (by decide) ?_
  refine s_icmp_ge (t := 605) kx_171_589 (by decide) (fun _ => ?_) (fun h => absurd h (by decide))
  exact s_vret kx_171_605 kq_171 ⟨rfl, rfl⟩
theorem kp_0_12 : x_pool k_P 0 12 = (3, 171, 0) := by decide +kernel
theorem kcl_171 : x_maxL k_P 171 ≤ 60 ∧ 1 ≤ x_maxL k_P 171 := by decide +kernel
theorem kx_0_15 : x_code k_P 0 15 = some (.astore_n 2, 1) := by decide +kernel
theorem km_0_2 : 2 < x_maxL k_P 0 := by decide +kernel
theorem kx_0_16 : x_code k_P 0 16 = some (.iconst 0, 1) := by decide +kernel
theorem kx_0_17 : x_code k_P 0 17 = some (.istore_n 3, 1) := by decide +kernel
theorem km_0_3 : 3 < x_maxL k_P 0 := by decide +kernel
set_option maxRecDepth 100000 in
theorem boot {xs : Nat → Int} {Ln d : Nat} {Q : Option cV → cH → Prop} (k : cP k_P xs Ln (d + 4) 0 18 [(3, (0, 0)), (2, rf 63), (1, rf 0), (0, (4, 0))] [] (k_T0.take 114, toM bU_309) Q) : cP k_P xs Ln (d + 4) 0 0 [(0, (4, 0))] [] ([], fun _ _ => 0) Q := by
  show cP k_P xs Ln (d + 4) 0 0 [(0, (4, 0))] [] (k_T0.take 0, toM bU_0) Q
  refine b_newo (i := 0) (M' := toM bU_1) kx_0_0 kp_0_7 rfl (by decide) rfl ?_
  refine s_dup kx_0_3 rfl ?_
  refine b_callI (T1 := k_T0.take 63) (M1 := toM bU_159) kx_0_4 kp_0_9 (by decide) kcl_135 (by decide) (bi_1 (d := d)) ?_
  refine s_astore_n kx_0_7 km_0_1 rfl ?_
  refine b_newo (i := 63) (M' := toM bU_160) kx_0_8 kp_0_10 rfl (by decide) rfl ?_
  refine s_dup kx_0_11 rfl ?_
  refine b_callI (T1 := k_T0.take 114) (M1 := toM bU_309) kx_0_12 kp_0_12 (by decide) kcl_171 (by decide) (bi_17 (d := d + 3)) ?_
  refine s_astore_n kx_0_15 km_0_2 rfl ?_
  refine s_iconst (v := 0) kx_0_16 (by decide) ?_
  refine s_istore_n kx_0_17 km_0_3 rfl ?_
  exact k
